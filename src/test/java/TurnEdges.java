import java.util.NoSuchElementException;
import java.util.function.Supplier;

/** The edges of promises 15 to 18, and of what the Terms say of turns. */
final class TurnEdges {
    private static final Class<?> BEYOND = ArithmeticException.class;
    private static final Class<?> NONE = NoSuchElementException.class;

    private TurnEdges() {
    }

    static void all() {
        turn();
        turnRefused();
        turnAtTheLimit();
        turnBeyondTheLimit();
        turnOf();
        placeOf();
        placeOfRefused();
        timesBack();
        terms();
        termOfPlaces();
    }

    private static void dueTurn(String what, SpinHall hall, int w, int x, int y, int z) {
        Check.due("w, " + what, hall.turnOf(0, 0), w);
        Check.due("x, " + what, hall.turnOf(0, 1), x);
        Check.due("y, " + what, hall.turnOf(0, 2), y);
        Check.due("z, " + what, hall.turnOf(0, 3), z);
    }

    private static int secondNumber(SpinHall hall, int w, int x, int y, int z, int index) {
        hall.turn(0, w, x, y, z);
        return hall.turnOf(0, index);
    }

    private static void turn() {
        Sentence.of(15, "Turns a body, behind what it was turned by.");
        dueTurn("z behind x", Halls.turned(2, 1, 0, 0, 1, 0, 0, 1), 2, 1, 1, 2);
        dueTurn("x behind z", Halls.turned(1, 0, 0, 1, 2, 1, 0, 0), 2, 1, -1, 2);
        Sentence.of(15, "`body`: the body");
        Edge.inside("turn", Halls::withSixBodies, 0, false, 5, false, (h, n) -> h.turn(n, 1, 1, 0, 0));
        Edge.inside("turnOf behind it", Halls::withSixBodies, 0, 7, 5, 7, (h, n) -> {
            h.turn(n, 1, 7, 0, 0);
            return h.turnOf(n, 1);
        });
        SpinHall last = Halls.withSixBodies();
        last.turn(5, 1, 2, 3, 4);
        dueTurn("the first body when the last one is turned", last, 1, 0, 0, 0);

        Sentence.of(15, "`w`: -9 to 9");
        Edge.inside("x behind turn w", Halls::turned, -9, -1, 9, 1, (h, n) -> secondNumber(h, n, 1, 0, 0, 1));
        Edge.outside("turn w", Halls::busy, -9, 9, (h, n) -> h.turn(0, n, 1, 0, 0));
        Sentence.of(15, "`x`: -9 to 9");
        Edge.inside("x behind turn x", Halls::turned, -9, -9, 9, 9, (h, n) -> secondNumber(h, 1, n, 0, 0, 1));
        Edge.outside("turn x", Halls::busy, -9, 9, (h, n) -> h.turn(0, 1, n, 0, 0));
        Sentence.of(15, "`y`: -9 to 9");
        Edge.inside("y behind turn y", Halls::turned, -9, -9, 9, 9, (h, n) -> secondNumber(h, 1, 0, n, 0, 2));
        Edge.outside("turn y", Halls::busy, -9, 9, (h, n) -> h.turn(0, 1, 0, n, 0));
        Sentence.of(15, "`z`: -9 to 9");
        Edge.inside("z behind turn z", Halls::turned, -9, -9, 9, 9, (h, n) -> secondNumber(h, 1, 0, 0, n, 3));
        Edge.outside("turn z", Halls::busy, -9, 9, (h, n) -> h.turn(0, 1, 0, 0, n));

        Sentence.of(15, "Returns whether its turn is 1, 0, 0, 0 then.");
        Check.due("turn by none", Halls.turned().turn(0, 1, 0, 0, 0), true);
        Check.due("turn by none, not in least numbers", Halls.turned().turn(0, 9, 0, 0, 0), true);
        Check.due("turn by none, below 0", Halls.turned().turn(0, -9, 0, 0, 0), true);
        Check.due("turn by none behind a turn", Halls.turned(9, 0, 0, 1).turn(0, 9, 0, 0, 0), false);
        Check.due("turn by x", Halls.turned().turn(0, 9, 1, 0, 0), false);
        Check.due("turn by y", Halls.turned().turn(0, 9, 0, 1, 0), false);
        Check.due("turn by z", Halls.turned().turn(0, 9, 0, 0, -1), false);
        Check.due("turn by x, w being 1", Halls.turned().turn(0, 1, 9, 0, 0), false);
        Check.due("turn by y, w being 1", Halls.turned().turn(0, 1, 0, -9, 0), false);
        Check.due("turn by z, w being 1", Halls.turned().turn(0, 1, 0, 0, 9), false);
        Check.due("turn by half", Halls.turned().turn(0, 0, 9, 0, 0), false);
        Check.due("turn back", Halls.turned(9, -8, 7, -6).turn(0, 9, 8, -7, 6), true);
        Check.due("turn back, below 0", Halls.turned(9, -8, 7, -6).turn(0, -9, -8, 7, -6), true);
        Check.due("turn half round twice", Halls.turned(0, 1, 2, 3).turn(0, 0, 1, 2, 3), true);
    }

    private static SpinHall fourth() {
        return Halls.turned(9, 8, 0, 0, 9, 8, 0, 0, 9, 8, 0, 0, 9, 8, 0, 0);
    }

    private static void turnRefused() {
        Sentence.of(15, "Throws `IndexOutOfBoundsException` if there is no such body");
        Edge.noBody("turn", (h, n) -> h.turn(n, 1, 1, 1, 1));
        Edge.noBody("turn by all 0", (h, n) -> h.turn(n, 0, 0, 0, 0));
        Edge.noBody("turn with a wrong z", (h, n) -> h.turn(n, 1, 0, 0, 10));

        Sentence.of(15, "Throws `IllegalArgumentException` if a number is out of range, or all are 0");
        Check.refused(Halls::busy, "turn by all 0", Edge.WRONG, h -> h.turn(0, 0, 0, 0, 0));
        Check.refused(Halls::withBody, "turn by all 0 at first", Edge.WRONG, h -> h.turn(0, 0, 0, 0, 0));
        Check.refused(TurnEdges::fourth, "turn by all 0, near the limit", Edge.WRONG, h -> h.turn(0, 0, 0, 0, 0));
        // taken as they are, these numbers would lead beyond the limit
        Edge.outside("turn w, beyond the limit too", TurnEdges::fourth, -9, 9, (h, n) -> h.turn(0, n, 8, 0, 0));
        Edge.outside("turn x, beyond the limit too", TurnEdges::fourth, -9, 9, (h, n) -> h.turn(0, 9, n, 0, 0));
        Edge.outside("turn y, beyond the limit too", TurnEdges::fourth, -9, 9, (h, n) -> h.turn(0, 9, 8, n, 0));
        Edge.outside("turn z, beyond the limit too", TurnEdges::fourth, -9, 9, (h, n) -> h.turn(0, 9, 8, 0, n));
        Check.due("turn by 1 in w alone", Halls.turned().turn(0, 1, 0, 0, 0), true);
        Check.due("turn by 1 in x alone", Halls.turned().turn(0, 0, 1, 0, 0), false);
        Check.due("turn by 1 in y alone", Halls.turned().turn(0, 0, 0, 1, 0), false);
        Check.due("turn by -1 in z alone", Halls.turned().turn(0, 0, 0, 0, -1), false);
    }

    private static void turnAtTheLimit() {
        Sentence.of(15, "Throws `ArithmeticException` if a number of the turn, brought to its least numbers, would "
            + "be beyond 30000, either way");
        dueTurn("near the limit", fourth(), 20447, -4896, 0, 0);
        Check.refused(TurnEdges::fourth, "one more", BEYOND, h -> h.turn(0, 9, 8, 0, 0));
        SpinHall back = fourth();
        Check.due("turn back from there", back.turn(0, 9, -8, 0, 0), false);
        dueTurn("beyond the limit, but not in least numbers", back, 999, -1432, 0, 0);

        dueTurn("w 30000", Halls.turned(6, 5, -7, -7, 6, -8, -6, -4, 8, -2, -3, 7, -5, 9, 7, -9, -8, -4, -6, -3),
            30000, -21410, -4496, -5003);
        dueTurn("x 30000", Halls.turned(2, 3, -4, -1, 6, 9, -4, 6, 2, -3, -5, 3, -5, 2, 9, 6, 5, 7, 6, 4),
            10582, 30000, 4231, 8125);
        dueTurn("x -30000", Halls.turned(2, -3, -7, 3, -1, 3, -7, -5, 1, 4, -7, -5, 4, 3, -2, 9, -5, -4, 4, -8),
            25582, -30000, -10345, 12019);
        dueTurn("y 30000", Halls.turned(-6, 0, 8, 4, 5, -6, 8, -8, -7, 8, 4, -9, -5, -6, 2, -3, 0, -8, -3, 1),
            12757, -11005, 30000, -19796);
        dueTurn("y -30000", Halls.turned(-2, -1, -7, 7, -7, 4, -6, -8, 6, 8, 5, 4, 4, -1, -5, 3, 8, 2, -9, 1),
            2435, -20599, -30000, -26582);
        dueTurn("z 30000", Halls.turned(-3, 4, 4, 6, 8, -8, -5, 3, 1, 3, -1, 9, 7, -9, -2, 5, -9, 1, 1, -9),
            25859, 13504, 10921, 30000);
        dueTurn("z -30000", Halls.turned(-3, 2, 6, -9, -1, -6, -6, 9, -7, -8, 5, -5, -1, 4, -8, 5, 9, 3, 9, -6),
            3388, -18955, 26799, -30000);
    }

    /** Each turn would make one number 30001 or -30001, and the others less. */
    private static void turnBeyondTheLimit() {
        Supplier<SpinHall> nearW = () -> Halls.turned(6, -4, -6, -2, 5, 6, 7, 6, -1, 8, 2, 4, -3, -6, -4, 1);
        Check.refused(nearW, "w 30001", BEYOND, h -> h.turn(0, 5, -3, -7, 2));
        Supplier<SpinHall> nearX = () -> Halls.turned(-9, -2, -4, -3, 4, -9, 3, -8, 5, -6, 2, 7, -6, -2, 6, 4);
        Check.refused(nearX, "x 30001", BEYOND, h -> h.turn(0, -6, 4, -6, 1));
        Supplier<SpinHall> nearLowX = () -> Halls.turned(-1, -2, -4, 4, 2, 6, -1, -9, 8, 2, 2, 2, 9, 2, -9, 2);
        Check.refused(nearLowX, "x -30001", BEYOND, h -> h.turn(0, -5, 9, -6, 1));
        Supplier<SpinHall> nearY = () -> Halls.turned(2, 5, 8, 9, 6, 9, 5, 4, -1, 4, 9, -2, -7, 0, 7, -5);
        Check.refused(nearY, "y 30001", BEYOND, h -> h.turn(0, 6, 2, 5, -6));
        Supplier<SpinHall> nearLowY = () -> Halls.turned(1, 2, -1, -9, -1, 6, -9, 2, -4, -2, -2, -1, 7, 5, -7, 5);
        Check.refused(nearLowY, "y -30001", BEYOND, h -> h.turn(0, 9, -9, 4, -4));
        Supplier<SpinHall> nearZ = () -> Halls.turned(-5, 9, -8, 1, -1, -3, -4, 2, -5, -9, -1, 7, 8, 2, 2, 7);
        Check.refused(nearZ, "z 30001", BEYOND, h -> h.turn(0, 2, -2, -6, -1));
        Supplier<SpinHall> nearLowZ =
            () -> Halls.turned(3, 4, -4, -1, -1, -8, -9, -3, 4, -2, -3, -9, 6, 0, 7, -3, 4, -5, -3, -5);
        Check.refused(nearLowZ, "z -30001", BEYOND, h -> h.turn(0, 7, -9, 4, -7));
    }

    private static void turnOf() {
        Sentence.of(16, "Returns a number of the turn of a body.");
        dueTurn("the greatest told", Halls.turned(9, 9, 9, 8), 9, 9, 9, 8);
        dueTurn("the least told", Halls.turned(1, -9, -9, -9), 1, -9, -9, -9);
        Sentence.of(16, "`body`: the body");
        Edge.inside("turnOf", Halls::full, 0, 0, 5, 5, (h, n) -> h.turnOf(n, 2));
        Sentence.of(16, "`index`: 0 for w, 1 for x, 2 for y, 3 for z");
        dueTurn("numbers all unlike", Halls.turned(2, -3, 5, -7), 2, -3, 5, -7);
        Edge.inside("turnOf", () -> Halls.turned(2, -3, 5, -7), 0, 2, 3, -7, (h, n) -> h.turnOf(0, n));
        Edge.outside("turnOf", Halls::busy, 0, 3, (h, n) -> h.turnOf(0, n));
        Sentence.of(16, "Returns the number.");
        dueTurn("at first", Halls.withBody(), 1, 0, 0, 0);
        Sentence.of(16, "Throws `IndexOutOfBoundsException` if there is no such body");
        Edge.noBody("turnOf", (h, n) -> h.turnOf(n, 0));
        Edge.noBody("turnOf with index 4", (h, n) -> h.turnOf(n, 4));
        Edge.noBody("turnOf with index -1", (h, n) -> h.turnOf(n, -1));
        Sentence.of(16, "Throws `IllegalArgumentException` if a number is out of range");
        Edge.outside("turnOf without masses", Halls::busy, 0, 3, (h, n) -> h.turnOf(2, n));
        Edge.outside("turnOf in the full hall", Halls::full, 0, 3, (h, n) -> h.turnOf(5, n));
    }

    private static void duePlace(String what, Supplier<SpinHall> maker, int x, int y, int z) {
        Edge.axes("placeOf " + what, maker, x, y, z, (h, a) -> h.placeOf(0, 0, a));
    }

    /** A place that is turned by 1, 2, 2; 2, 1, -2; -2, 2, -1, all by 3. */
    private static Supplier<SpinHall> inThirds(int x, int y, int z) {
        return () -> {
            SpinHall hall = Halls.withBody(1, x, y, z);
            hall.turn(0, 1, 1, 1, 0);
            return hall;
        };
    }

    private static void placeOf() {
        Sentence.of(17, "Returns the place of a mass on an axis, turned.");
        duePlace("at the corner", () -> Halls.withBody(1, 9, -9, 9), 9000, -9000, 9000);
        duePlace("turned", () -> Halls.turned(1, 0, 0, 1), 4000, 3000, 5000);
        Sentence.of(17, "`body`: the body");
        Edge.inside("placeOf", Halls::full, 0, 2958, 5, -2650, (h, n) -> h.placeOf(n, 0, 'z'));
        Sentence.of(17, "`mass`: the mass");
        Edge.inside("placeOf", Halls::full, 0, 10719, 7, -5819, (h, n) -> h.placeOf(5, n, 'x'));
        Sentence.of(17, "`axis`: 'x', 'y' or 'z'");
        Edge.axes("placeOf", Halls::full, -5819, 8485, 3023, (h, a) -> h.placeOf(5, 7, a));

        Sentence.of(17, "Returns a thousand times the place, the greatest whole number that is not above it.");
        duePlace("333 and a third, 666 and two thirds, and less than -666", inThirds(1, 0, 0), 333, 666, -667);
        duePlace("less than -333 and -666, and 666 and two thirds", inThirds(-1, 0, 0), -334, -667, 666);
        duePlace("whole, above and below 0", inThirds(9, 9, 9), 15000, 3000, -3000);
        duePlace("whole, below and above 0", inThirds(-9, -9, -9), -15000, -3000, 3000);
        duePlace("0", inThirds(0, 0, 0), 0, 0, 0);
        duePlace("near the limit of w", () -> Halls.turned(6, 5, -7, -7, 6, -8, -6, -4, 8, -2, -3, 7, -5, 9, 7, -9,
            -8, -4, -6, -3), 1204, 3261, 6157);
        duePlace("near the limit of z", () -> Halls.turned(-3, 2, 6, -9, -1, -6, -6, 9, -7, -8, 5, -5, -1, 4, -8, 5,
            9, 3, 9, -6), 3068, -4494, 4516);
    }

    private static void placeOfRefused() {
        Sentence.of(17, "Throws `IndexOutOfBoundsException` if there is no such body, or mass in it");
        Edge.noBody("placeOf", (h, n) -> h.placeOf(n, 0, 'x'));
        Edge.noBody("placeOf on a wrong axis", (h, n) -> h.placeOf(n, 0, 'w'));
        for (int mass : new int[] {-1, 2, 7, 8, Integer.MIN_VALUE, Integer.MAX_VALUE}) {
            Edge.refusedWith("placeOf in a body of 2", Halls::busy, Edge.NO_INDEX, mass,
            (h, n) -> h.placeOf(0, n, 'x'));
            Edge.refusedWith("placeOf in a body of 2, on a wrong axis", Halls::busy, Edge.NO_INDEX, mass,
                (h, n) -> h.placeOf(0, n, '{'));
        }
        for (int mass : new int[] {-1, 0, 7}) {
            Edge.refusedWith("placeOf without masses", Halls::busy, Edge.NO_INDEX, mass,
            (h, n) -> h.placeOf(2, n, 'x'));
        }
        for (int mass : new int[] {-1, 8, Integer.MIN_VALUE, Integer.MAX_VALUE}) {
            Edge.refusedWith("placeOf in a body of 8", Halls::full, Edge.NO_INDEX, mass,
            (h, n) -> h.placeOf(5, n, 'x'));
        }
        Sentence.of(17, "Throws `IllegalArgumentException` if there is no such axis");
        Edge.noAxis("placeOf", Halls::busy, (h, a) -> h.placeOf(0, 1, a));
        Edge.noAxis("placeOf in the full hall", Halls::full, (h, a) -> h.placeOf(5, 7, a));
    }

    private static void timesBack() {
        Sentence.of(18, "Returns how often a turn must be done till all is as ahead of it.");
        Check.due("by none", new SpinHall().timesBack(1, 0, 0, 0), 1);
        Check.due("in the full hall", Halls.full().timesBack(3, -1, 1, -1), 6);
        Sentence.of(18, "`w`: -9 to 9");
        Edge.inside("timesBack w", Halls::none, -9, 1, 9, 1, (h, n) -> h.timesBack(n, 0, 0, 0));
        Edge.inside("timesBack w, a quarter", Halls::none, -9, 4, 9, 4, (h, n) -> h.timesBack(n, 9, 0, 0));
        Edge.outside("timesBack w", Halls::busy, -9, 9, (h, n) -> h.timesBack(n, 0, 0, 0));
        Sentence.of(18, "`x`: -9 to 9");
        Edge.inside("timesBack x", Halls::none, -9, 2, 9, 2, (h, n) -> h.timesBack(0, n, 0, 0));
        Edge.outside("timesBack x", Halls::busy, -9, 9, (h, n) -> h.timesBack(0, n, 0, 0));
        Sentence.of(18, "`y`: -9 to 9");
        Edge.inside("timesBack y", Halls::none, -9, 2, 9, 2, (h, n) -> h.timesBack(0, 0, n, 0));
        Edge.outside("timesBack y", Halls::busy, -9, 9, (h, n) -> h.timesBack(0, 0, n, 0));
        Sentence.of(18, "`z`: -9 to 9");
        Edge.inside("timesBack z", Halls::none, -9, 2, 9, 2, (h, n) -> h.timesBack(0, 0, 0, n));
        Edge.outside("timesBack z", Halls::busy, -9, 9, (h, n) -> h.timesBack(0, 0, 0, n));

        Sentence.of(18, "Returns how often, 1 to 12.");
        // a turn of whole numbers is back with 1, 2, 3, 4 or 6, or never
        Check.due("with 1", new SpinHall().timesBack(-7, 0, 0, 0), 1);
        Check.due("with 2", new SpinHall().timesBack(0, 9, -8, 7), 2);
        Check.due("with 3", new SpinHall().timesBack(9, -9, 9, -9), 3);
        Check.due("with 3, two thirds", new SpinHall().timesBack(-1, 1, 1, 1), 3);
        Check.due("with 4", new SpinHall().timesBack(5, 3, 0, -4), 4);
        Check.due("with 4, about x", new SpinHall().timesBack(1, 1, 0, 0), 4);
        Check.due("with 4, about y", new SpinHall().timesBack(1, 0, -1, 0), 4);
        Check.due("with 4, about z", new SpinHall().timesBack(1, 0, 0, 1), 4);
        Check.due("with 6", new SpinHall().timesBack(9, 3, -3, 3), 6);
        Check.due("with 6, five sixths", new SpinHall().timesBack(-3, 1, 1, 1), 6);

        Sentence.of(18, "Throws `IllegalArgumentException` if a number is out of range, or all are 0");
        Check.refused(Halls::none, "timesBack of all 0", Edge.WRONG, h -> h.timesBack(0, 0, 0, 0));
        Check.refused(Halls::full, "timesBack of all 0 in the full hall", Edge.WRONG, h -> h.timesBack(0, 0, 0, 0));
        Edge.outside("timesBack w, never back too", Halls::full, -9, 9, (h, n) -> h.timesBack(n, 1, 0, 0));
        Edge.outside("timesBack x, never back too", Halls::full, -9, 9, (h, n) -> h.timesBack(1, n, 0, 0));
        Edge.outside("timesBack y, never back too", Halls::full, -9, 9, (h, n) -> h.timesBack(1, 0, n, 0));
        Edge.outside("timesBack z, never back too", Halls::full, -9, 9, (h, n) -> h.timesBack(1, 0, 0, n));

        Sentence.of(18, "Throws `NoSuchElementException` if it is not so with 12");
        Check.refused(Halls::busy, "timesBack, less than a sixth", NONE, h -> h.timesBack(9, 3, 3, 4));
        Check.refused(Halls::busy, "timesBack, near a quarter", NONE, h -> h.timesBack(9, 8, 0, 0));
        Check.refused(Halls::busy, "timesBack, near a half", NONE, h -> h.timesBack(1, 9, 9, 9));
        Check.refused(Halls::full, "timesBack, near a third", NONE, h -> h.timesBack(9, 9, 9, 8));
        Check.refused(Halls::none, "timesBack, near none", NONE, h -> h.timesBack(-9, 0, 0, 1));
    }

    private static void terms() {
        Sentence.term("A turn is four whole numbers, w, x, y and z, not all 0, without a common divisor but 1, the "
            + "first one that is not 0 being above 0.");
        dueTurn("by 9", Halls.turned(9, 9, 9, 9), 1, 1, 1, 1);
        dueTurn("by 2, not by 4", Halls.turned(8, 4, 2, 4), 4, 2, 1, 2);
        dueTurn("by 3, with 0", Halls.turned(0, 9, 6, 3), 0, 3, 2, 1);
        dueTurn("no divisor of all, though each two have one", Halls.turned(6, 2, 3, 0), 6, 2, 3, 0);
        dueTurn("w below 0", Halls.turned(-1, 2, -3, 4), 1, -2, 3, -4);
        dueTurn("w 0, x below 0", Halls.turned(0, -1, 2, -3), 0, 1, -2, 3);
        dueTurn("w and x 0, y below 0", Halls.turned(0, 0, -2, 3), 0, 0, 2, -3);
        dueTurn("z alone, below 0", Halls.turned(0, 0, 0, -9), 0, 0, 0, 1);
        dueTurn("x below 0 behind w above 0", Halls.turned(1, -2, -3, -4), 1, -2, -3, -4);
        Check.refused(Halls::busy, "all 0", Edge.WRONG, h -> h.turn(0, 0, 0, 0, 0));

        Sentence.term("One behind another is composed as four-numbers are: with the later one first, w is w w' - x "
            + "x' - y y' - z z', x is w x' + x w' + y z' - z y', y is w y' - x z' + y w' + z x', z is w z' + x y' "
            + "- y x' + z w'; then it is brought to its least numbers.");
        dueTurn("i behind j", Halls.turned(0, 0, 1, 0, 0, 1, 0, 0), 0, 0, 0, 1);
        dueTurn("i behind k, sign changed", Halls.turned(0, 0, 0, 1, 0, 1, 0, 0), 0, 0, 1, 0);
        dueTurn("i behind 1 and j", Halls.turned(1, 0, 1, 0, 0, 1, 0, 0), 0, 1, 0, 1);
        dueTurn("j behind 1 and i", Halls.turned(1, 1, 0, 0, 0, 0, 1, 0), 0, 0, 1, -1);
        dueTurn("all numbers, by 2", Halls.turned(1, 2, 3, 4, 5, 6, 7, 8), 30, -10, -7, -16);
        dueTurn("all numbers, by 6, the other way round", Halls.turned(5, 6, 7, 8, 1, 2, 3, 4), 10, -2, -5, -4);
        dueTurn("a half behind itself", Halls.turned(0, 9, 8, 7, 0, 9, 8, 7), 1, 0, 0, 0);

        Sentence.term("A body has a turn, 1, 0, 0, 0 at first.");
        dueTurn("at first", Halls.withBody(), 1, 0, 0, 0);
        SpinHall last = Halls.withSixBodies();
        Check.due("w of the last body", last.turnOf(5, 0), 1);
        Check.due("z of the last body", last.turnOf(5, 3), 0);
    }

    private static void termOfPlaces() {
        Sentence.term("Turned, a place x, y, z is at those times the matrix of it, of which the rows are w w + x x "
            + "- y y - z z, 2 x y - 2 w z, 2 x z + 2 w y; then 2 x y + 2 w z, w w - x x + y y - z z, 2 y z - 2 w "
            + "x; then 2 x z - 2 w y, 2 y z + 2 w x, w w - x x - y y + z z; divided by the sum of squares.");
        // the rows for 1, 2, 3, 4 are -20, 4, 22; 20, -10, 20; 10, 28, 4, all by 30
        duePlace("first column", () -> rowsFor(9, 0, 0), -6000, 6000, 3000);
        duePlace("second column", () -> rowsFor(0, 9, 0), 1200, -3000, 8400);
        duePlace("third column", () -> rowsFor(0, 0, 9), 6600, 6000, 1200);
        duePlace("all columns", () -> rowsFor(3, -4, 5), 1133, 6666, -2067);
        duePlace("by none", () -> Halls.turned(9, 0, 0, 0), 3000, -4000, 5000);
        duePlace("half round x", () -> Halls.turned(0, 1, 0, 0), 3000, 4000, -5000);
        duePlace("half round y", () -> Halls.turned(0, 0, 1, 0), -3000, -4000, -5000);
        duePlace("half round z", () -> Halls.turned(0, 0, 0, 1), -3000, 4000, 5000);
    }

    private static SpinHall rowsFor(int x, int y, int z) {
        SpinHall hall = Halls.withBody(1, x, y, z);
        hall.turn(0, 1, 2, 3, 4);
        return hall;
    }
}
