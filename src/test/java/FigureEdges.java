import java.util.function.Supplier;

/** The edges of promises 45 to 48, and of what the Terms say of exceptions. */
final class FigureEdges {
    private static final Class<?> BEYOND = ArithmeticException.class;

    private FigureEdges() {
    }

    static void all() {
        checksum();
        wakingShare();
        meanPlace();
        isSound();
        termOfNoChange();
        termOfTheFirst();
    }

    private static long summed(long... numbers) {
        long sum = 7;
        for (long number : numbers) {
            sum = 31 * sum + number;
        }
        return sum;
    }

    private static void checksum() {
        Sentence.of(45, "Returns a sum over the hall.");
        Check.due("of the empty hall", new SpinHall().checksum(), summed(0, 0, 0, 0, 0, 0));
        Sentence.of(45, "Returns 7 at first, then for each body 31 times itself plus each number of its turn, w, "
            + "x, y and z, one behind the other; then for each top 31 times itself plus its spin; then 31 times "
            + "itself plus the angle of each ring; then 31 times itself plus the speed of each wheel.");
        Check.due("of a body without masses", Halls.withBody().checksum(), summed(1, 0, 0, 0, 0, 0, 0, 0, 0, 0));
        Check.due("of a turned body", Halls.turned(2, -3, 5, -7).checksum(), summed(2, -3, 5, -7, 0, 0, 0, 0, 0, 0));
        Check.due("of a top that lies", Halls.withTop(99, 1).checksum(), summed(0, 0, 0, 0, 0, 0, 0));
        Check.due("of a top that stands", Halls.withTop(100, 1).checksum(), summed(100, 0, 0, 0, 0, 0, 0));
        SpinHall rings = new SpinHall();
        rings.turnRing(0, -1);
        rings.turnRing(1, 90);
        rings.turnRing(2, 360);
        Check.due("of rings", rings.checksum(), summed(359, 90, 0, 0, 0, 0));
        SpinHall wheels = new SpinHall();
        wheels.command('x', 999, 99);
        wheels.command('y', -999, 99);
        wheels.command('z', -1, 1);
        Check.due("of wheels", wheels.checksum(), summed(0, 0, 0, 6000, -6000, -1));
        Check.due("of the busy hall", Halls.busy().checksum(), summed(1, 2, 3, 4, 0, 1, 2, 3, 5, 0, 0, -1, 290, 199, 0,
            359, 12, 347, 6000, -1500, 0));
        Check.due("of the full hall", Halls.full().checksum(), summed(9, -8, 0, 1, 9, -8, 1, 1, 9, -8, 2, 1,
            9, -8, 3, 1, 9, -8, 4, 1, 9, -8, 5, 1, 9108, 8117, 7126, 6135, 5144, 4153, 363, 0, 99, 359, 180,
            6000, -6000, 6000));
    }

    private static void wakingShare() {
        Sentence.of(46, "Returns the share of tops that nod.");
        Check.due("all nod", Halls.withTop(199, 1).wakingShare(), 1f);
        Check.due("all sleep", Halls.withTop(200, 1).wakingShare(), 0f);
        Sentence.of(46, "Returns their number divided by that of all that do not lie, both converted to float.");
        Check.due("one of two, and one that lies", Halls.busy().wakingShare(), 0.5f);
        Check.due("one of seven, and one that lies", Halls.full().wakingShare(), 1f / 7f);
        Check.due("none of eight", Halls.withEightTops().wakingShare(), 0f);
        SpinHall late = Halls.withEightTops();
        late.run(12);
        Check.due("eight of eight", late.wakingShare(), 1f);
        Check.due("two of three", Halls.withTops(199, 1, 1, 1, 10000, 100, 1, 1, 1, 10000, 200, 1, 1, 1, 10000)
            .wakingShare(), 2f / 3f);
        Sentence.of(46, "Throws `ArithmeticException` if there are none");
        Check.refused(Halls::none, "without tops", BEYOND, SpinHall::wakingShare);
        Check.refused(() -> Halls.withTop(99, 1), "one that lies at once", BEYOND, SpinHall::wakingShare);
        Check.refused(FigureEdges::eightThatLie, "eight that lie", BEYOND, SpinHall::wakingShare);
    }

    private static SpinHall eightThatLie() {
        SpinHall hall = Halls.withEightTops();
        hall.run(999);
        return hall;
    }

    private static void meanPlace() {
        Sentence.of(47, "Returns the mean place of masses of a body on an axis, as its centre, without its turn.");
        Supplier<SpinHall> corner = () -> Halls.withBody(9, 9, -9, 0, 1, 9, -9, 0);
        Edge.axes("at the corner", corner, 9.0, -9.0, 0.0, (h, a) -> h.meanPlace(0, a));
        Edge.axes("of a turned one", () -> Halls.turned(0, 1, 0, 0), 3.0, -4.0, 5.0, (h, a) -> h.meanPlace(0, a));
        Sentence.of(47, "`body`: the body");
        Edge.inside("meanPlace", Halls::full, 0, -36.0 / 72.0, 5, -51.0 / 67.0, (h, n) -> h.meanPlace(n, 'y'));
        Sentence.of(47, "`axis`: 'x', 'y' or 'z'");
        Edge.axes("meanPlace", Halls::full, 45.0 / 67.0, -51.0 / 67.0, 5.0, (h, a) -> h.meanPlace(5, a));
        Sentence.of(47, "Returns the sum for the axis divided by the whole mass, both converted to double.");
        Edge.axes("of shares that are not exact", () -> Halls.withBody(9, 1, 0, 0, 4, 0, -1, 0, 8, 0, 0, 1),
            9.0 / 21.0, -4.0 / 21.0, 8.0 / 21.0, (h, a) -> h.meanPlace(0, a));
        Edge.axes("with the least mass", () -> Halls.withBody(1, 1, -1, 0), 1.0, -1.0, 0.0,
            (h, a) -> h.meanPlace(0, a));
        Edge.axes("with the greatest mass", () -> Halls.withFarCorners(9, -9, 0), 0.0, 0.0, 0.0,
            (h, a) -> h.meanPlace(0, a));
        Sentence.of(47, "Throws `IndexOutOfBoundsException` if there is no such body");
        Edge.noBody("meanPlace", (h, n) -> h.meanPlace(n, 'x'));
        Edge.noBody("meanPlace on a wrong axis", (h, n) -> h.meanPlace(n, 'w'));
        Sentence.of(47, "Throws `IllegalArgumentException` if there is no such axis");
        Edge.noAxis("meanPlace", Halls::busy, (h, a) -> h.meanPlace(0, a));
        Edge.noAxis("meanPlace without masses", Halls::busy, (h, a) -> h.meanPlace(2, a));
        Edge.noAxis("meanPlace in the full hall", Halls::full, (h, a) -> h.meanPlace(5, a));
        Sentence.of(47, "Throws `ArithmeticException` if it has no masses");
        for (char axis : new char[] {'x', 'y', 'z'}) {
            Check.refused(Halls::busy, "the last of three", BEYOND, h -> h.meanPlace(2, axis));
            Check.refused(Halls::withBody, "the only one", BEYOND, h -> h.meanPlace(0, axis));
        }
        Check.due("with one mass", Halls.withBody(1, 0, 0, 0).meanPlace(0, 'z'), 0.0);
    }

    private static void isSound() {
        Sentence.of(48, "Checks the hall: the moments of each body fit, none being more than both others together; "
            + "turns are in their least numbers; no top that stands has a spin by which it falls; what is kept of "
            + "pushes is less than the momentum; wheels are not beyond their speed.");
        // SoundTest has the edges at which it is false, to which no calls lead
        Check.due("a flat body, one moment being both others together",
            Halls.withBody(1, 1, 0, 0, 1, -1, 0, 0, 1, 0, 2, 0, 1, 0, -2, 0).isSound(), true);
        Check.due("a rod, two moments alike and 0", Halls.withBody(1, 9, 0, 0, 1, -9, 0, 0).isSound(), true);
        Check.due("a body without masses", Halls.withBody().isSound(), true);
        Check.due("a turn that was not told in its least numbers", Halls.turned(-4, 6, 8, -2).isSound(), true);
        Check.due("a top at the bound", Halls.withTop(100, 1).isSound(), true);
        Check.due("a top that lies at once", Halls.withTop(99, 1).isSound(), true);
        SpinHall kept = new SpinHall();
        kept.pushCage(999, 1);
        Check.due("999 kept of 1000", kept.isSound(), true);
        kept.pushCage(-999, 2);
        Check.due("-999 kept of 1000", kept.isSound(), true);
        kept.setMomentum(1);
        Check.due("another momentum", kept.isSound(), true);
        Sentence.of(48, "Returns true if so.");
        Check.due("the empty hall", new SpinHall().isSound(), true);
        Check.due("the busy hall", Halls.busy().isSound(), true);
        Check.due("the full hall", Halls.full().isSound(), true);
        Check.due("the locked hall", Halls.locked().isSound(), true);
        Check.due("eight that lie", eightThatLie().isSound(), true);
    }

    private static void termOfNoChange() {
        Sentence.term("A method that throws an exception changes nothing.");
        Check.refused(Halls::busy, "the last number of addMass", Edge.WRONG, h -> h.addMass(0, 9, 9, 9, 10));
        Check.refused(Halls::busy, "the last number of setSpin", Edge.WRONG, h -> h.setSpin(0, 9, 9, 21));
        Check.refused(Halls::busy, "the last number of turn", Edge.WRONG, h -> h.turn(0, 9, 8, 7, 10));
        Check.refused(Halls::busy, "the last number of addTop", Edge.WRONG, h -> h.addTop(9, 9, 9, 9, 100000));
        Check.refused(Halls::busy, "the last number of turnRing", Edge.WRONG, h -> h.turnRing(1, 361));
        Check.refused(Halls::busy, "the last number of pushCage", Edge.WRONG, h -> h.pushCage(999, 1000));
        Check.refused(Halls::busy, "the last number of command", Edge.WRONG, h -> h.command('x', 999, 100));
        Check.refused(Halls::busy, "the last number of photograph", Edge.WRONG, h -> h.photograph(50, 181));
        Check.refused(Halls::locked, "a push", UnsupportedOperationException.class, h -> h.pushCage(999, 999));
        SpinHall hall = Halls.full();
        SpinHall other = Halls.full();
        for (int time = 0; time < 99; time++) {
            refuse(hall::addBody);
            refuse(() -> hall.addTop(9, 9, 9, 9, 9));
            refuse(() -> hall.photograph(1, 1));
        }
        Check.due("checksum() behind 297 refused calls", hall.checksum(), other.checksum());
        Check.due("run(9) behind 297 refused calls", hall.run(9), other.run(9));
        Check.due("clearPhotographs() behind 297 refused calls", hall.clearPhotographs(), 6);
    }

    private static void refuse(Runnable call) {
        boolean isRefused = false;
        try {
            call.run();
        } catch (IllegalStateException thrown) {
            isRefused = true;
        }
        Check.due("is refused", isRefused, true);
    }

    /** Calls to which two exceptions apply, in the order of the promises. */
    private static void termOfTheFirst() {
        Sentence.term("If several exceptions apply, the one that is documented first is thrown.");
        Class<?> index = Edge.NO_INDEX;
        Class<?> wrong = Edge.WRONG;
        Check.refused(Halls::full, "addMass: no body, ahead of a number", index, h -> h.addMass(6, 0, 0, 0, 0));
        Check.refused(Halls::full, "addMass: a number, ahead of 8 masses", wrong, h -> h.addMass(0, 1, 0, 0, 10));
        Check.refused(Halls::busy, "sumOf: no body, ahead of the axis", index, h -> h.sumOf(3, 'w'));
        Check.refused(Halls::busy, "momentOf: no body, ahead of the axis", index, h -> h.momentOf(3, 'w'));
        Check.refused(Halls::busy, "productOf: no body, ahead of the axis", index, h -> h.productOf(3, 'w'));
        Check.refused(Halls::busy, "setSpin: no body, ahead of a number", index, h -> h.setSpin(3, 0, 0, 21));
        Check.refused(Halls::busy, "firmness: no body, ahead of the axis", index, h -> h.firmness(3, 'w'));
        Check.refused(Halls::busy, "firmness: the axis, ahead of a product", wrong, h -> h.firmness(0, 'w'));
        Check.refused(() -> Halls.withBody(1, 1, 1, 0, 1, 0, 0, 0), "goesRound: a product, ahead of no spin",
            UnsupportedOperationException.class, h -> h.goesRound(0));
        Check.refused(Halls::withBody, "goesRound: not 'a', ahead of no spin", UnsupportedOperationException.class,
            h -> h.goesRound(0));
        Check.refused(Halls::busy, "turn: no body, ahead of all 0", index, h -> h.turn(3, 0, 0, 0, 0));
        Check.refused(FigureEdges::fourTurns, "turn: a number, ahead of the limit", wrong, h -> h.turn(0, 10, 9, 0, 0));
        Check.refused(Halls::busy, "turnOf: no body, ahead of the index", index, h -> h.turnOf(3, 4));
        Check.refused(Halls::busy, "placeOf: no body, ahead of the axis", index, h -> h.placeOf(3, 0, 'w'));
        Check.refused(Halls::busy, "placeOf: no mass, ahead of the axis", index, h -> h.placeOf(0, 2, 'w'));
        Check.refused(Halls::busy, "timesBack: a number, ahead of never", wrong, h -> h.timesBack(10, 1, 0, 0));
        Check.refused(Halls::full, "addTop: a number, ahead of 8 tops", wrong, h -> h.addTop(0, 1, 1, 1, 1));
        Check.refused(Halls::busy, "pushTop: no top, ahead of the number", index, h -> h.pushTop(3, 0));
        Check.refused(Halls::busy, "pushTop: the number, ahead of one that lies", wrong, h -> h.pushTop(2, 0));
        Check.refused(Halls::locked, "pushCage: a number, ahead of the lock", wrong, h -> h.pushCage(1000, 1));
        Check.refused(Halls::full, "photograph: a number, ahead of 6 photographs", wrong, h -> h.photograph(0, 0));
        Check.refused(Halls::busy, "meanPlace: no body, ahead of the axis", index, h -> h.meanPlace(3, 'w'));
        Check.refused(Halls::busy, "meanPlace: the axis, ahead of no masses", wrong, h -> h.meanPlace(2, 'w'));
    }

    private static SpinHall fourTurns() {
        return Halls.turned(9, 8, 0, 0, 9, 8, 0, 0, 9, 8, 0, 0, 9, 8, 0, 0);
    }
}
