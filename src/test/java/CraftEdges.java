/** The edges of promises 37 to 39, and of what the Terms say of a craft. */
final class CraftEdges {
    private static final char[] AXES = {'x', 'y', 'z'};

    private CraftEdges() {
    }

    static void all() {
        command();
        driftOf();
        unload();
        terms();
    }

    private static SpinHall at(char axis, int speed) {
        SpinHall hall = new SpinHall();
        int sign = speed < 0 ? -1 : 1;
        hall.command(axis, speed / 99, 99);
        hall.command(axis, sign, Math.max(1, Math.abs(speed) % 99));
        if (speed % 99 == 0) {
            hall.command(axis, -sign, 1);
        }
        return hall;
    }

    private static void dueAt(String what, SpinHall hall, char axis, int speed, long drift) {
        Check.due("speed, " + what, hall.command(axis, 0, 1), speed);
        Check.due("drift, " + what, hall.driftOf(axis), drift);
    }

    private static void command() {
        Sentence.of(37, "Commands a wheel.");
        SpinHall wheels = new SpinHall();
        wheels.command('y', 7, 3);
        dueAt("the wheel itself", wheels, 'y', 21, 0);
        dueAt("the wheel ahead", wheels, 'x', 0, 0);
        dueAt("the wheel behind", wheels, 'z', 0, 0);
        Sentence.of(37, "`axis`: 'x', 'y' or 'z'");
        Edge.axes("command", Halls::full, 5999, -6000, 5999, (h, a) -> h.command(a, -1, 1));
        Sentence.of(37, "`torque`: -999 to 999");
        Edge.inside("command", Halls::none, -999, -999, 999, 999, (h, n) -> h.command('x', n, 1));
        Edge.outside("command", Halls::busy, -999, 999, (h, n) -> h.command('y', n, 1));
        Sentence.of(37, "`ticks`: 1 to 99");
        Edge.inside("command", Halls::none, 1, 60, 99, 5940, (h, n) -> h.command('z', 60, n));
        Edge.outside("command", Halls::busy, 1, 99, (h, n) -> h.command('z', 1, n));
        Sentence.of(37, "Returns its speed then.");
        Check.due("5999 and 1", at('x', 5999).command('x', 1, 1), 6000);
        Check.due("6000 and 1", at('x', 6000).command('x', 1, 1), 6000);
        Check.due("-5999 and -1", at('y', -5999).command('y', -1, 1), -6000);
        Check.due("-6000 and -1", at('y', -6000).command('y', -1, 1), -6000);
        Check.due("6000 and -1", at('z', 6000).command('z', -1, 1), 5999);
        Check.due("6000 to the other end", at('z', 6000).command('z', -999, 99), -6000);
        Check.due("by nothing", at('z', -6000).command('z', 0, 99), -6000);
        Sentence.of(37, "Throws `IllegalArgumentException` if there is no such axis, or a number is out of range");
        Edge.noAxis("command", Halls::busy, (h, a) -> h.command(a, 1, 1));
        Edge.noAxis("command in the full hall", Halls::full, (h, a) -> h.command(a, 1, 1));
        Edge.noAxis("command with wrong numbers", Halls::full, (h, a) -> h.command(a, 1000, 0));
        for (char axis : AXES) {
            Edge.outside("torque of " + axis, Halls::full, -999, 999, (h, n) -> h.command(axis, n, 1));
            Edge.outside("ticks of " + axis, Halls::full, 1, 99, (h, n) -> h.command(axis, 1, n));
        }
    }

    private static void driftOf() {
        Sentence.of(38, "Returns the drift of an axis.");
        Edge.axes("driftOf at first", Halls::none, 0L, 0L, 0L, (h, a) -> h.driftOf(a));
        Sentence.of(38, "`axis`: 'x', 'y' or 'z'");
        Edge.axes("driftOf", Halls::full, 92901L, -92901L, 0L, (h, a) -> h.driftOf(a));
        Sentence.of(38, "Returns the sum.");
        SpinHall much = new SpinHall();
        for (int time = 0; time < 500; time++) {
            much.command('x', 999, 99);
            if (time < 10) {
                much.command('y', -999, 99);
            }
        }
        Check.due("much", much.driftOf('x'), 500L * 98901 - 6000);
        Check.due("much below 0", much.driftOf('y'), 6000 - 10L * 98901);
        Check.due("none", much.driftOf('z'), 0L);
        Sentence.of(38, "Throws `IllegalArgumentException` if there is no such axis");
        Edge.noAxis("driftOf", Halls::busy, SpinHall::driftOf);
        Edge.noAxis("driftOf in the full hall", Halls::full, SpinHall::driftOf);
    }

    private static void unload() {
        Sentence.of(39, "Unloads a wheel.");
        SpinHall wheels = Halls.full();
        wheels.unload('y', 1);
        dueAt("the wheel itself", wheels, 'y', -5999, -92901);
        dueAt("the wheel ahead", wheels, 'x', 6000, 92901);
        dueAt("the wheel behind", wheels, 'z', 6000, 0);
        Sentence.of(39, "`axis`: 'x', 'y' or 'z'");
        Edge.axes("unload", Halls::full, 5998, -5998, 5998, (h, a) -> h.unload(a, 2));
        Sentence.of(39, "`by`: 1 to 9999");
        Edge.inside("unload", Halls::full, 1, 5999, 9999, 0, (h, n) -> h.unload('x', n));
        Edge.inside("unload below 0", Halls::full, 1, -5999, 9999, 0, (h, n) -> h.unload('y', n));
        Edge.outside("unload", Halls::busy, 1, 9999, (h, n) -> h.unload('x', n));
        Sentence.of(39, "Returns its speed then.");
        Check.due("5999 of 6000", Halls.full().unload('x', 5999), 1);
        Check.due("6000 of 6000", Halls.full().unload('x', 6000), 0);
        Check.due("6001 of 6000", Halls.full().unload('x', 6001), 0);
        Check.due("5999 of -6000", Halls.full().unload('y', 5999), -1);
        Check.due("6000 of -6000", Halls.full().unload('y', 6000), 0);
        Check.due("6001 of -6000", Halls.full().unload('y', 6001), 0);
        Check.due("1 of 1", at('z', 1).unload('z', 1), 0);
        Check.due("2 of -1", at('z', -1).unload('z', 2), 0);
        Check.due("1 of 0", new SpinHall().unload('z', 1), 0);
        Sentence.of(39, "Throws `IllegalArgumentException` if there is no such axis, or a number is out of range");
        Edge.noAxis("unload", Halls::busy, (h, a) -> h.unload(a, 1));
        Edge.noAxis("unload in the full hall", Halls::full, (h, a) -> h.unload(a, 1));
        Edge.noAxis("unload by 0", Halls::full, (h, a) -> h.unload(a, 0));
        for (char axis : AXES) {
            Edge.outside("unload " + axis, Halls::full, 1, 9999, (h, n) -> h.unload(axis, n));
        }
    }

    private static void terms() {
        Sentence.term("It has a wheel for each axis, with a speed from -6000 to 6000, 0 at first.");
        for (char axis : AXES) {
            Check.due("the speed at first of " + axis, new SpinHall().command(axis, 0, 1), 0);
            dueAt("5999 of " + axis, at(axis, 5999), axis, 5999, 0);
            dueAt("6000 of " + axis, at(axis, 6000), axis, 6000, 0);
            dueAt("6001 of " + axis, at(axis, 6001), axis, 6000, 1);
            dueAt("-5999 of " + axis, at(axis, -5999), axis, -5999, 0);
            dueAt("-6000 of " + axis, at(axis, -6000), axis, -6000, 0);
            dueAt("-6001 of " + axis, at(axis, -6001), axis, -6000, -1);
        }

        Sentence.term("A command turns a wheel by its torque in each of some ticks; what a wheel cannot take any "
            + "more, with its sign, is drift of the axis, summed up.");
        SpinHall hall = new SpinHall();
        Check.due("99 ticks of 61", hall.command('x', 61, 99), 6000);
        dueAt("99 ticks of 61", hall, 'x', 6000, 39);
        Check.due("12 ticks of -999", hall.command('x', -999, 12), -5988);
        dueAt("12 ticks of -999", hall, 'x', -5988, 39);
        Check.due("1 tick of -13", hall.command('x', -13, 1), -6000);
        dueAt("1 tick of -13", hall, 'x', -6000, 38);
        Check.due("39 ticks of -1", hall.command('x', -1, 39), -6000);
        dueAt("39 ticks of -1", hall, 'x', -6000, -1);

        Sentence.term("A field unloads a wheel by as much as told, toward 0 at most.");
        SpinHall unloaded = at('x', -6001);
        Check.due("1 of -6000", unloaded.unload('x', 1), -5999);
        Check.due("5998 of -5999", unloaded.unload('x', 5998), -1);
        Check.due("9999 of -1", unloaded.unload('x', 9999), 0);
        Check.due("9999 of 0", unloaded.unload('x', 9999), 0);
        dueAt("unloaded, with its drift", unloaded, 'x', 0, -1);
    }
}
