/** Promises 37 to 39: a craft. */
final class CraftTest {
    private static final Class<?> WRONG = IllegalArgumentException.class;

    public static void main(String[] args) {
        command();
        unload();
        wrongCalls();
        Check.end();
    }

    private static SpinHall full() {
        SpinHall hall = new SpinHall();
        hall.command('x', 999, 7);
        hall.command('y', -500, 3);
        return hall;
    }

    private static void command() {
        SpinHall hall = new SpinHall();
        Check.due("driftOf at first", hall.driftOf('x'), 0L);
        Check.due("command up to the most", hall.command('x', 600, 10), 6000);
        Check.due("driftOf at the most", hall.driftOf('x'), 0L);
        Check.due("command beyond the most", hall.command('x', 1, 1), 6000);
        Check.due("driftOf beyond the most", hall.driftOf('x'), 1L);
        Check.due("command away from the most", hall.command('x', -1, 5), 5995);
        Check.due("driftOf is kept", hall.driftOf('x'), 1L);
        Check.due("command to the other end", hall.command('x', -999, 99), -6000);
        Check.due("driftOf with its sign", hall.driftOf('x'), 1L + 5995 - 999 * 99 + 6000);
        Check.due("command of y", hall.command('y', -7, 3), -21);
        Check.due("driftOf y", hall.driftOf('y'), 0L);
        Check.due("command of z", hall.command('z', 999, 99), 6000);
        Check.due("driftOf z", hall.driftOf('z'), 999L * 99 - 6000);
        Check.due("command by nothing", hall.command('z', 0, 99), 6000);
        for (int i = 0; i < 400; i++) {
            hall.command('z', 999, 99);
        }
        Check.due("driftOf z, much", hall.driftOf('z'), 401L * 999 * 99 - 6000);
    }

    private static void unload() {
        SpinHall hall = full();
        Check.due("unload some", hall.unload('x', 1), 5999);
        Check.due("unload all", hall.unload('x', 5999), 0);
        Check.due("unload an empty wheel", hall.unload('x', 9999), 0);
        Check.due("unload below 0", hall.unload('y', 1499), -1);
        Check.due("unload below 0 by too much", hall.unload('y', 9999), 0);
        Check.due("driftOf behind unload", hall.driftOf('x'), 993L);
    }

    private static void wrongCalls() {
        for (char axis : new char[] {'w', '{', 'X', 0, 65535}) {
            Check.refused(CraftTest::full, "command of " + (int) axis, WRONG, h -> h.command(axis, 1, 1));
            Check.refused(CraftTest::full, "driftOf " + (int) axis, WRONG, h -> h.driftOf(axis));
            Check.refused(CraftTest::full, "unload of " + (int) axis, WRONG, h -> h.unload(axis, 1));
        }
        Check.refused(CraftTest::full, "torque 1000", WRONG, h -> h.command('y', 1000, 1));
        Check.refused(CraftTest::full, "torque -1000", WRONG, h -> h.command('y', -1000, 1));
        Check.refused(CraftTest::full, "ticks 0", WRONG, h -> h.command('y', 1, 0));
        Check.refused(CraftTest::full, "ticks 100", WRONG, h -> h.command('y', 1, 100));
        Check.refused(CraftTest::full, "unload by 0", WRONG, h -> h.unload('x', 0));
        Check.refused(CraftTest::full, "unload by 10000", WRONG, h -> h.unload('x', 10000));
    }
}
