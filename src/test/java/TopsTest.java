import java.util.NoSuchElementException;

/** Promises 19 to 27: tops. */
final class TopsTest {
    private static final Class<?> NO_INDEX = IndexOutOfBoundsException.class;
    private static final Class<?> WRONG = IllegalArgumentException.class;

    public static void main(String[] args) {
        addTop();
        wrongTops();
        states();
        pushTop();
        run();
        foresight();
        placeAt();
        Check.end();
    }

    private static SpinHall with(int... numbers) {
        SpinHall hall = new SpinHall();
        for (int i = 0; i < numbers.length; i += 5) {
            hall.addTop(numbers[i], numbers[i + 1], numbers[i + 2], numbers[i + 3], numbers[i + 4]);
        }
        return hall;
    }

    /** It sleeps from 200 and nods from 100. */
    private static SpinHall plain() {
        return with(300, 10, 1, 1, 10000);
    }

    private static SpinHall lying() {
        return with(99, 10, 1, 1, 10000);
    }

    private static SpinHall eight() {
        SpinHall hall = new SpinHall();
        for (int top = 0; top < 8; top++) {
            hall.addTop(300 + top, 10, 1, 1, 10000);
        }
        return hall;
    }

    private static void addTop() {
        SpinHall hall = new SpinHall();
        for (int top = 0; top < 8; top++) {
            Check.due("addTop", hall.addTop(300 + top, 10, 1, 1, 10000), top);
        }
        Check.due("spinOf(7)", hall.spinOf(7), 307);
        Check.due("the greatest", with(9999, 99, 9, 9, 99999).stateOf(0), 's');
        Check.due("the least", with(1, 1, 1, 1, 1).stateOf(0), 'n');
        Check.due("a heavy one with little spin", with(1, 99, 1, 9, 99999).stateOf(0), 'f');
        Check.due("events of one that lies at once", lying().events(), 0);
        Check.refused(TopsTest::eight, "the ninth", IllegalStateException.class, h -> h.addTop(300, 1, 1, 1, 1));
        Check.refused(TopsTest::eight, "the ninth, wrong too", WRONG, h -> h.addTop(0, 1, 1, 1, 1));
    }

    private static void wrongTops() {
        Check.refused(TopsTest::plain, "spin 0", WRONG, h -> h.addTop(0, 1, 1, 1, 1));
        Check.refused(TopsTest::plain, "spin 10000", WRONG, h -> h.addTop(10000, 1, 1, 1, 1));
        Check.refused(TopsTest::plain, "loss 0", WRONG, h -> h.addTop(1, 0, 1, 1, 1));
        Check.refused(TopsTest::plain, "loss 100", WRONG, h -> h.addTop(1, 100, 1, 1, 1));
        Check.refused(TopsTest::plain, "c 0", WRONG, h -> h.addTop(1, 1, 0, 1, 1));
        Check.refused(TopsTest::plain, "c 10", WRONG, h -> h.addTop(1, 1, 10, 1, 1));
        Check.refused(TopsTest::plain, "a 0", WRONG, h -> h.addTop(1, 1, 1, 0, 1));
        Check.refused(TopsTest::plain, "a 10", WRONG, h -> h.addTop(1, 1, 1, 10, 1));
        Check.refused(TopsTest::plain, "weight 0", WRONG, h -> h.addTop(1, 1, 1, 1, 0));
        Check.refused(TopsTest::plain, "weight 100000", WRONG, h -> h.addTop(1, 1, 1, 1, 100000));
        for (int top : new int[] {-1, 1, 8, Integer.MIN_VALUE, Integer.MAX_VALUE}) {
            Check.refused(TopsTest::plain, "stateOf " + top, NO_INDEX, h -> h.stateOf(top));
            Check.refused(TopsTest::plain, "spinOf " + top, NO_INDEX, h -> h.spinOf(top));
            Check.refused(TopsTest::plain, "pushTop " + top, NO_INDEX, h -> h.pushTop(top, 0));
            Check.refused(TopsTest::plain, "nextEvent " + top, NO_INDEX, h -> h.nextEvent(top));
            Check.refused(TopsTest::plain, "standing " + top, NO_INDEX, h -> h.standing(top));
        }
    }

    private static void states() {
        Check.due("at the bound of sleep", with(200, 1, 1, 1, 10000).stateOf(0), 's');
        Check.due("below the bound of sleep", with(199, 1, 1, 1, 10000).stateOf(0), 'n');
        Check.due("at the bound of nodding", with(100, 1, 1, 1, 10000).stateOf(0), 'n');
        Check.due("below the bound of nodding", lying().stateOf(0), 'f');
        Check.due("the spin of one that lies", lying().spinOf(0), 0);
        Check.due("the spin of one that stands", with(100, 1, 1, 1, 10000).spinOf(0), 100);
        Check.due("c is squared too", with(50, 1, 4, 1, 10000).stateOf(0), 's');
        Check.due("c, a bit less", with(49, 1, 4, 1, 10000).stateOf(0), 'n');
        Check.due("c, nodding", with(25, 1, 4, 1, 10000).stateOf(0), 'n');
        Check.due("c, falling", with(24, 1, 4, 1, 10000).stateOf(0), 'f');
        Check.due("a counts once", with(600, 1, 1, 9, 10000).stateOf(0), 's');
        Check.due("a, a bit less", with(599, 1, 1, 9, 10000).stateOf(0), 'n');
        Check.due("a, falling", with(299, 1, 1, 9, 10000).stateOf(0), 'f');
        Check.due("no whole root", with(1898, 1, 1, 9, 99999).stateOf(0), 's');
        Check.due("no whole root, a bit less", with(1897, 1, 1, 9, 99999).stateOf(0), 'n');
    }

    private static void pushTop() {
        SpinHall hall = with(150, 10, 1, 1, 10000);
        Check.due("pushTop that changes nothing", hall.pushTop(0, 49), 199);
        Check.due("events() still", hall.events(), 0);
        Check.due("pushTop to sleep", hall.pushTop(0, 1), 200);
        Check.due("stateOf then", hall.stateOf(0), 's');
        Check.due("events() then", hall.events(), 1);
        Check.due("pushTop to the most", hall.pushTop(0, 9798), 9998);
        Check.due("pushTop beyond the most", hall.pushTop(0, 9999), 9999);
        Check.due("spinOf at the most", hall.spinOf(0), 9999);
        Check.due("events() at the end", hall.events(), 1);
        Check.refused(TopsTest::plain, "by 0", WRONG, h -> h.pushTop(0, 0));
        Check.refused(TopsTest::plain, "by 10000", WRONG, h -> h.pushTop(0, 10000));
        Check.refused(TopsTest::lying, "by 0, lying", WRONG, h -> h.pushTop(0, 0));
        Check.refused(TopsTest::lying, "lying", UnsupportedOperationException.class, h -> h.pushTop(0, 9999));
    }

    private static void run() {
        SpinHall hall = plain();
        Check.due("run(10)", hall.run(10), 0);
        Check.due("stateOf at 200", hall.stateOf(0), 's');
        Check.due("run(1) to nodding", hall.run(1), 1);
        Check.due("spinOf", hall.spinOf(0), 190);
        Check.due("stateOf at 190", hall.stateOf(0), 'n');
        Check.due("run(9)", hall.run(9), 0);
        Check.due("run(1) to falling", hall.run(1), 1);
        Check.due("spinOf of one that fell", hall.spinOf(0), 0);
        Check.due("stateOf of one that fell", hall.stateOf(0), 'f');
        Check.due("run(999) of one that lies", hall.run(999), 0);
        Check.due("events()", hall.events(), 2);

        Check.due("both changes in one run", plain().run(999), 2);
        Check.due("from sleep to the floor in a tick", with(5, 99, 1, 1, 1).run(1), 1);
        Check.due("run of no tops", new SpinHall().run(1), 0);
        SpinHall two = with(300, 10, 1, 1, 10000, 150, 25, 1, 1, 10000);
        Check.due("run(2) of two", two.run(2), 0);
        Check.due("run(1) of two", two.run(1), 1);
        Check.due("run(8) of two", two.run(8), 1);
        Check.due("events() of two", two.events(), 2);
        SpinHall slow = with(9999, 1, 1, 1, 1);
        for (int i = 0; i < 10; i++) {
            Check.due("run(999) of a slow one", slow.run(999), 0);
        }
        Check.due("spinOf of a slow one", slow.spinOf(0), 9);
        Check.due("the rest of a slow one", slow.run(999), 2);
        Check.refused(TopsTest::plain, "run(0)", WRONG, h -> h.run(0));
        Check.refused(TopsTest::plain, "run(1000)", WRONG, h -> h.run(1000));
    }

    private static void foresight() {
        Check.due("nextEvent of one that sleeps", plain().nextEvent(0), 11);
        Check.due("standing of one that sleeps", plain().standing(0), 21);
        Check.due("nextEvent at the bound", with(200, 99, 1, 1, 10000).nextEvent(0), 1);
        Check.due("standing past 0", with(200, 99, 1, 1, 10000).standing(0), 2);
        Check.due("nextEvent of one that nods", with(150, 25, 1, 1, 10000).nextEvent(0), 3);
        Check.due("standing of one that nods", with(150, 25, 1, 1, 10000).standing(0), 3);
        Check.due("standing the longest", with(9999, 1, 1, 1, 1).standing(0), 9999);
        Check.due("standing of one that lies", lying().standing(0), 0);
        Check.refused(TopsTest::lying, "nextEvent of one that lies", NoSuchElementException.class,
            h -> h.nextEvent(0));
    }

    private static void placeAt() {
        // they stand 0, 21, 3, 21 and 0 ticks
        SpinHall hall = with(99, 1, 1, 1, 10000, 300, 10, 1, 1, 10000, 150, 25, 1, 1, 10000,
            300, 10, 1, 1, 10000, 50, 1, 1, 1, 10000);
        int[] places = {1, 3, 2, 0, 4};
        for (int rank = 0; rank < places.length; rank++) {
            Check.due("placeAt " + rank, hall.placeAt(rank), places[rank]);
        }
        hall.pushTop(2, 9000);
        Check.due("placeAt 0 behind a push", hall.placeAt(0), 2);
        Check.due("placeAt 1 behind a push", hall.placeAt(1), 1);
        Class<?> none = NoSuchElementException.class;
        Check.refused(TopsTest::plain, "placeAt(1)", none, h -> h.placeAt(1));
        Check.refused(TopsTest::plain, "placeAt(-1)", none, h -> h.placeAt(-1));
        Check.refused(TopsTest::eight, "placeAt(8)", none, h -> h.placeAt(8));
        Check.refused(SpinHall::new, "placeAt(0) of no tops", none, h -> h.placeAt(0));
    }
}
