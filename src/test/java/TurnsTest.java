import java.util.NoSuchElementException;

/** Promises 15 to 18: turns. */
final class TurnsTest {
    private static final Class<?> NO_INDEX = IndexOutOfBoundsException.class;
    private static final Class<?> WRONG = IllegalArgumentException.class;

    public static void main(String[] args) {
        turn();
        wrongTurns();
        turnOf();
        placeOf();
        timesBack();
        Check.end();
    }

    private static SpinHall body() {
        SpinHall hall = new SpinHall();
        hall.addBody();
        hall.addMass(0, 1, 3, -4, 5);
        return hall;
    }

    private static SpinHall turned(int... numbers) {
        SpinHall hall = body();
        for (int i = 0; i < numbers.length; i += 4) {
            hall.turn(0, numbers[i], numbers[i + 1], numbers[i + 2], numbers[i + 3]);
        }
        return hall;
    }

    private static void dueTurn(String what, SpinHall hall, int w, int x, int y, int z) {
        Check.due("w of " + what, hall.turnOf(0, 0), w);
        Check.due("x of " + what, hall.turnOf(0, 1), x);
        Check.due("y of " + what, hall.turnOf(0, 2), y);
        Check.due("z of " + what, hall.turnOf(0, 3), z);
    }

    private static void turn() {
        dueTurn("no turn", body(), 1, 0, 0, 0);
        dueTurn("a turn", turned(2, -3, 5, -7), 2, -3, 5, -7);
        dueTurn("least numbers", turned(-4, 6, 8, -2), 2, -3, -4, 1);
        dueTurn("the sign by x", turned(0, -4, 6, 0), 0, 2, -3, 0);
        dueTurn("the sign by y", turned(0, 0, -3, 9), 0, 0, 1, -3);
        dueTurn("the sign by z", turned(0, 0, 0, -9), 0, 0, 0, 1);
        dueTurn("i behind j", turned(0, 0, 1, 0, 0, 1, 0, 0), 0, 0, 0, 1);
        dueTurn("x behind z", turned(1, 0, 0, 1, 2, 1, 0, 0), 2, 1, -1, 2);
        dueTurn("z behind x", turned(2, 1, 0, 0, 1, 0, 0, 1), 2, 1, 1, 2);
        dueTurn("two whole ones", turned(1, 2, 3, 4, 5, 6, 7, 8), 30, -10, -7, -16);
        Check.due("turn that turns", body().turn(0, 1, 1, 0, 0), false);
        Check.due("turn by none", body().turn(0, -7, 0, 0, 0), true);
        Check.due("turn back", turned(3, 2, -1, 5).turn(0, -3, 2, -1, 5), true);
        SpinHall two = body();
        two.addBody();
        two.turn(1, 1, 2, 0, 0);
        dueTurn("the other body", two, 1, 0, 0, 0);
    }

    private static SpinHall some() {
        return turned(1, 2, 3, 4);
    }

    private static void wrongTurns() {
        Check.refused(TurnsTest::some, "turn(1, 0, 0, 0, 0)", NO_INDEX, h -> h.turn(1, 0, 0, 0, 0));
        Check.refused(TurnsTest::some, "turn(-1, ..)", NO_INDEX, h -> h.turn(-1, 1, 0, 0, 0));
        Check.refused(TurnsTest::some, "all are 0", WRONG, h -> h.turn(0, 0, 0, 0, 0));
        for (int number : new int[] {-10, 10, Integer.MIN_VALUE, Integer.MAX_VALUE}) {
            Check.refused(TurnsTest::some, "turn w " + number, WRONG, h -> h.turn(0, number, 0, 0, 0));
            Check.refused(TurnsTest::some, "turn x " + number, WRONG, h -> h.turn(0, 1, number, 0, 0));
            Check.refused(TurnsTest::some, "turn y " + number, WRONG, h -> h.turn(0, 1, 0, number, 0));
            Check.refused(TurnsTest::some, "turn z " + number, WRONG, h -> h.turn(0, 1, 0, 0, number));
            Check.refused(TurnsTest::some, "timesBack w " + number, WRONG, h -> h.timesBack(number, 0, 0, 0));
            Check.refused(TurnsTest::some, "timesBack x " + number, WRONG, h -> h.timesBack(1, number, 0, 0));
            Check.refused(TurnsTest::some, "timesBack y " + number, WRONG, h -> h.timesBack(1, 0, number, 0));
            Check.refused(TurnsTest::some, "timesBack z " + number, WRONG, h -> h.timesBack(1, 0, 0, number));
        }
        Check.refused(TurnsTest::some, "timesBack of all 0", WRONG, h -> h.timesBack(0, 0, 0, 0));
    }

    private static void turnOf() {
        Check.refused(TurnsTest::some, "turnOf(1, 4)", NO_INDEX, h -> h.turnOf(1, 4));
        Check.refused(TurnsTest::some, "turnOf(-1, 0)", NO_INDEX, h -> h.turnOf(-1, 0));
        Check.refused(TurnsTest::some, "turnOf(0, 4)", WRONG, h -> h.turnOf(0, 4));
        Check.refused(TurnsTest::some, "turnOf(0, -1)", WRONG, h -> h.turnOf(0, -1));
    }

    private static void duePlace(String what, SpinHall hall, int x, int y, int z) {
        Check.due("x " + what, hall.placeOf(0, 0, 'x'), x);
        Check.due("y " + what, hall.placeOf(0, 0, 'y'), y);
        Check.due("z " + what, hall.placeOf(0, 0, 'z'), z);
    }

    private static void placeOf() {
        duePlace("without a turn", body(), 3000, -4000, 5000);
        duePlace("a quarter round z", turned(1, 0, 0, 1), 4000, 3000, 5000);
        duePlace("a quarter round x", turned(1, 1, 0, 0), 3000, -5000, -4000);
        duePlace("a quarter round y", turned(1, 0, 1, 0), 5000, -4000, -3000);
        duePlace("half round x", turned(0, 1, 0, 0), 3000, 4000, -5000);
        duePlace("a third", turned(1, 1, 1, 1), 5000, 3000, -4000);
        // the matrix is -20 4 22, 20 -10 20, 10 28 4 by 30
        duePlace("1, 2, 3, 4", turned(1, 2, 3, 4), 1133, 6666, -2067);
        SpinHall hall = some();
        hall.addMass(0, 2, 0, 0, -9);
        Check.due("x of the second mass", hall.placeOf(0, 1, 'x'), -6600);
        Check.refused(TurnsTest::some, "placeOf(1, 0, 'w')", NO_INDEX, h -> h.placeOf(1, 0, 'w'));
        Check.refused(TurnsTest::some, "placeOf(0, 1, 'w')", NO_INDEX, h -> h.placeOf(0, 1, 'w'));
        Check.refused(TurnsTest::some, "placeOf(0, -1, 'x')", NO_INDEX, h -> h.placeOf(0, -1, 'x'));
        Check.refused(TurnsTest::some, "placeOf(0, 8, 'x')", NO_INDEX, h -> h.placeOf(0, 8, 'x'));
        Check.refused(TurnsTest::some, "placeOf(0, 0, 'w')", WRONG, h -> h.placeOf(0, 0, 'w'));
        Check.refused(TurnsTest::some, "placeOf(0, 0, '{')", WRONG, h -> h.placeOf(0, 0, '{'));
    }

    private static void timesBack() {
        SpinHall hall = new SpinHall();
        Check.due("none", hall.timesBack(1, 0, 0, 0), 1);
        Check.due("none, below 0", hall.timesBack(-9, 0, 0, 0), 1);
        Check.due("half", hall.timesBack(0, 3, 0, -9), 2);
        Check.due("a third", hall.timesBack(1, -1, 1, 1), 3);
        Check.due("two thirds", hall.timesBack(-3, 3, 3, 3), 3);
        Check.due("a quarter", hall.timesBack(5, 0, -5, 0), 4);
        Check.due("a sixth", hall.timesBack(3, 1, 1, 1), 6);
        Check.due("a sixth, twice", hall.timesBack(-9, 3, -3, 3), 6);
        Class<?> none = NoSuchElementException.class;
        Check.refused(TurnsTest::some, "timesBack(2, 1, 0, 0)", none, h -> h.timesBack(2, 1, 0, 0));
        Check.refused(TurnsTest::some, "timesBack(9, 9, 9, 8)", none, h -> h.timesBack(9, 9, 9, 8));
        Check.refused(TurnsTest::some, "timesBack(1, 9, 9, 9)", none, h -> h.timesBack(1, 9, 9, 9));
    }
}
