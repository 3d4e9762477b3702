import java.util.NoSuchElementException;
import java.util.function.Supplier;

/** The edges of promises 1 to 9, and of what the Terms say of bodies. */
final class BodyEdges {
    private static final Class<?> FULL = IllegalStateException.class;
    private static final Class<?> NONE = NoSuchElementException.class;
    private static final Class<?> UNSUPPORTED = UnsupportedOperationException.class;

    private BodyEdges() {
    }

    static void all() {
        newObject();
        addBody();
        addMass();
        addMassRefused();
        massOf();
        sumOf();
        momentOf();
        productOf();
        kindOf();
        kindOfRefused();
        loadedAxis();
        terms();
        termOfKinds();
    }

    private static void newObject() {
        Sentence.of(1, "Creates a hall without bodies and tops.");
        Check.refused(SpinHall::new, "massOf(0)", Edge.NO_INDEX, h -> h.massOf(0));
        Check.refused(SpinHall::new, "stateOf(0)", Edge.NO_INDEX, h -> h.stateOf(0));
        Check.refused(SpinHall::new, "placeAt(0)", NONE, h -> h.placeAt(0));
        Check.due("checksum()", new SpinHall().checksum(), 7L * 31 * 31 * 31 * 31 * 31 * 31);
        Check.due("isSound()", new SpinHall().isSound(), true);
        SpinHall one = new SpinHall();
        one.addBody();
        one.addTop(1, 1, 1, 1, 1);
        Check.refused(SpinHall::new, "massOf(0) beside another hall", Edge.NO_INDEX, h -> h.massOf(0));
        Check.refused(SpinHall::new, "stateOf(0) beside another hall", Edge.NO_INDEX, h -> h.stateOf(0));
    }

    private static SpinHall withBodies(int count) {
        SpinHall hall = new SpinHall();
        for (int body = 0; body < count; body++) {
            hall.addBody();
        }
        return hall;
    }

    private static void addBody() {
        Sentence.of(2, "Adds a body without masses.");
        SpinHall hall = withBodies(1);
        Check.due("massOf(0)", hall.massOf(0), 0);
        Check.refused(() -> withBodies(1), "kindOf(0)", NONE, h -> h.kindOf(0));
        Check.refused(() -> withBodies(1), "placeOf(0, 0, 'x')", Edge.NO_INDEX, h -> h.placeOf(0, 0, 'x'));

        Sentence.of(2, "Returns its number.");
        Check.due("the first addBody()", withBodies(0).addBody(), 0);
        Check.due("the second addBody()", withBodies(1).addBody(), 1);
        Check.due("the sixth addBody()", withBodies(5).addBody(), 5);

        Sentence.of(2, "Throws `IllegalStateException` if there are 6");
        Check.refused(() -> withBodies(6), "addBody() with 6", FULL, SpinHall::addBody);
        Check.refused(Halls::full, "addBody() in the full hall", FULL, SpinHall::addBody);
        SpinHall six = withBodies(5);
        six.addBody();
        Check.due("massOf of the sixth", six.massOf(5), 0);
    }

    private static SpinHall withMasses(int count) {
        SpinHall hall = new SpinHall();
        hall.addBody();
        hall.addBody();
        for (int mass = 0; mass < count; mass++) {
            hall.addMass(0, 1, mass, -mass, 1);
        }
        return hall;
    }

    private static void addMass() {
        Sentence.of(3, "Adds a mass to a body.");
        SpinHall hall = withMasses(3);
        hall.addMass(0, 7, 9, 9, 9);
        Check.due("massOf(0)", hall.massOf(0), 10);
        Check.due("massOf(1)", hall.massOf(1), 0);

        Sentence.of(3, "`body`: the body");
        Edge.inside("addMass", Halls::withSixBodies, 0, 0, 5, 0, (h, n) -> h.addMass(n, 1, 0, 0, 0));
        Edge.inside("massOf behind it", Halls::withSixBodies, 0, 3, 5, 3, (h, n) -> {
            h.addMass(n, 3, 0, 0, 0);
            return h.massOf(n);
        });

        Sentence.of(3, "`mass`: 1 to 9");
        Edge.inside("massOf behind addMass", Halls::withBody, 1, 1, 9, 9, (h, n) -> {
            h.addMass(0, n, 0, 0, 0);
            return h.massOf(0);
        });
        Edge.outside("addMass", Halls::busy, 1, 9, (h, n) -> h.addMass(0, n, 0, 0, 0));

        Sentence.of(3, "`x`: -9 to 9");
        Edge.inside("sumOf behind addMass", Halls::withBody, -9, -9, 9, 9, (h, n) -> {
            h.addMass(0, 1, n, 0, 0);
            return h.sumOf(0, 'x');
        });
        Edge.outside("addMass", Halls::busy, -9, 9, (h, n) -> h.addMass(0, 1, n, 0, 0));

        Sentence.of(3, "`y`: -9 to 9");
        Edge.inside("sumOf behind addMass", Halls::withBody, -9, -9, 9, 9, (h, n) -> {
            h.addMass(0, 1, 0, n, 0);
            return h.sumOf(0, 'y');
        });
        Edge.outside("addMass", Halls::busy, -9, 9, (h, n) -> h.addMass(0, 1, 0, n, 0));

        Sentence.of(3, "`z`: -9 to 9");
        Edge.inside("sumOf behind addMass", Halls::withBody, -9, -9, 9, 9, (h, n) -> {
            h.addMass(0, 1, 0, 0, n);
            return h.sumOf(0, 'z');
        });
        Edge.outside("addMass", Halls::busy, -9, 9, (h, n) -> h.addMass(0, 1, 0, 0, n));

        Sentence.of(3, "Returns its number in it.");
        Check.due("the first", withMasses(0).addMass(0, 1, 0, 0, 0), 0);
        Check.due("the second", withMasses(1).addMass(0, 1, 0, 0, 0), 1);
        Check.due("the eighth", withMasses(7).addMass(0, 1, 0, 0, 0), 7);
        Check.due("the first of the other body", withMasses(7).addMass(1, 1, 0, 0, 0), 0);
    }

    private static void addMassRefused() {
        Sentence.of(3, "Throws `IndexOutOfBoundsException` if there is no such body");
        Edge.noBody("addMass", (h, n) -> h.addMass(n, 1, 0, 0, 0));
        Edge.noBody("addMass with a wrong mass", (h, n) -> h.addMass(n, 0, 0, 0, 0));
        Edge.noBody("addMass with a wrong z", (h, n) -> h.addMass(n, 1, 0, 0, 10));

        Sentence.of(3, "Throws `IllegalArgumentException` if a number is out of range");
        Edge.outside("addMass to a body of 8", Halls::full, 1, 9, (h, n) -> h.addMass(5, n, 0, 0, 0));
        Edge.outside("addMass to a body of 8, x", Halls::full, -9, 9, (h, n) -> h.addMass(5, 1, n, 0, 0));
        Edge.outside("addMass to a body of 8, y", Halls::full, -9, 9, (h, n) -> h.addMass(5, 1, 0, n, 0));
        Edge.outside("addMass to a body of 8, z", Halls::full, -9, 9, (h, n) -> h.addMass(5, 1, 0, 0, n));

        Sentence.of(3, "Throws `IllegalStateException` if it has 8");
        Check.refused(() -> withMasses(8), "the ninth", FULL, h -> h.addMass(0, 1, 0, 0, 0));
        Check.refused(Halls::full, "the ninth of body 0", FULL, h -> h.addMass(0, 9, 9, 9, 9));
        Check.refused(Halls::full, "the ninth of body 5", FULL, h -> h.addMass(5, 1, -9, -9, -9));
        Check.due("the first of the body beside it", withMasses(8).addMass(1, 1, 0, 0, 0), 0);
    }

    private static void massOf() {
        Sentence.of(4, "Returns the whole mass of a body.");
        Check.due("massOf of the greatest", Halls.withFarCorners(0, 0, 0).massOf(0), 72);
        Check.due("massOf of the least", Halls.withBody(1, 0, 0, 0).massOf(0), 1);
        Sentence.of(4, "`body`: the body");
        Edge.inside("massOf", Halls::full, 0, 72, 5, 67, SpinHall::massOf);
        Sentence.of(4, "Returns the sum.");
        Check.due("massOf without masses", Halls.withBody().massOf(0), 0);
        Check.due("massOf of two", Halls.withBody(1, 1, 1, 1, 9, 2, 2, 2).massOf(0), 10);
        Sentence.of(4, "Throws `IndexOutOfBoundsException` if there is no such body");
        Edge.noBody("massOf", SpinHall::massOf);
    }

    private static SpinHall withLeastAndGreatestSums() {
        SpinHall hall = withBodies(1);
        for (int mass = 0; mass < 8; mass++) {
            hall.addMass(0, 9, 9, -9, 0);
        }
        return hall;
    }

    private static void sumOf() {
        Sentence.of(5, "Returns the sum of a body for an axis.");
        Edge.axes("sumOf", BodyEdges::withLeastAndGreatestSums, 648, -648, 0, (h, a) -> h.sumOf(0, a));
        Sentence.of(5, "`body`: the body");
        Edge.inside("sumOf y", Halls::full, 0, -36, 5, -51, (h, n) -> h.sumOf(n, 'y'));
        Sentence.of(5, "`axis`: 'x', 'y' or 'z'");
        Edge.axes("sumOf", Halls::full, 45, -51, 335, (h, a) -> h.sumOf(5, a));
        Sentence.of(5, "Returns the sum.");
        Edge.axes("sumOf without masses", Halls::withBody, 0, 0, 0, (h, a) -> h.sumOf(0, a));
        Edge.axes("sumOf that is even", () -> Halls.withBody(9, 1, 9, -1, 1, -9, -9, 9), 0, 72, 0,
            (h, a) -> h.sumOf(0, a));
        Sentence.of(5, "Throws `IndexOutOfBoundsException` if there is no such body");
        Edge.noBody("sumOf", (h, n) -> h.sumOf(n, 'z'));
        Edge.noBody("sumOf with a wrong axis", (h, n) -> h.sumOf(n, 'w'));
        Sentence.of(5, "Throws `IllegalArgumentException` if there is no such axis");
        Edge.noAxis("sumOf", Halls::busy, (h, a) -> h.sumOf(0, a));
        Edge.noAxis("sumOf without masses", Halls::busy, (h, a) -> h.sumOf(2, a));
    }

    private static void momentOf() {
        Sentence.of(6, "Returns the moment of a body for an axis.");
        Edge.axes("the greatest momentOf", () -> Halls.withFarCorners(9, 9, 9), 839808, 839808, 839808,
            (h, a) -> h.momentOf(0, a));
        Edge.axes("the least momentOf above 0", () -> Halls.withBody(1, 0, 0, 0, 1, 1, 0, 0), 0, 1, 1,
            (h, a) -> h.momentOf(0, a));
        Sentence.of(6, "`body`: the body");
        Edge.inside("momentOf y", Halls::full, 0, 419904, 5, 361584, (h, n) -> h.momentOf(n, 'y'));
        Sentence.of(6, "`axis`: 'x', 'y' or 'z'");
        Edge.axes("momentOf", Halls::full, 20916, 361584, 382500, (h, a) -> h.momentOf(5, a));
        Sentence.of(6, "Returns the moment.");
        Edge.axes("momentOf without masses", Halls::withBody, 0, 0, 0, (h, a) -> h.momentOf(0, a));
        Edge.axes("momentOf of a point far off", () -> Halls.withBody(9, 9, -9, 9), 0, 0, 0,
            (h, a) -> h.momentOf(0, a));
        Sentence.of(6, "Throws `IndexOutOfBoundsException` if there is no such body");
        Edge.noBody("momentOf", (h, n) -> h.momentOf(n, 'z'));
        Edge.noBody("momentOf with a wrong axis", (h, n) -> h.momentOf(n, '{'));
        Sentence.of(6, "Throws `IllegalArgumentException` if there is no such axis");
        Edge.noAxis("momentOf", Halls::busy, (h, a) -> h.momentOf(0, a));
        Edge.noAxis("momentOf without masses", Halls::busy, (h, a) -> h.momentOf(2, a));
    }

    private static void productOf() {
        Sentence.of(7, "Returns the product of a body for an axis.");
        Edge.axes("the least productOf", () -> Halls.withFarCorners(9, 9, 9), -419904, -419904, -419904,
            (h, a) -> h.productOf(0, a));
        Edge.axes("the greatest productOf", () -> Halls.withFarCorners(9, -9, 9), 419904, -419904, 419904,
            (h, a) -> h.productOf(0, a));
        Sentence.of(7, "`body`: the body");
        Edge.inside("productOf z", Halls::full, 0, 23328, 5, 10368, (h, n) -> h.productOf(n, 'z'));
        Sentence.of(7, "`axis`: 'x', 'y' or 'z'");
        Edge.axes("productOf", Halls::busy, 180, -120, 144, (h, a) -> h.productOf(0, a));
        Sentence.of(7, "Returns the product.");
        Edge.axes("productOf without masses", Halls::withBody, 0, 0, 0, (h, a) -> h.productOf(0, a));
        Edge.axes("productOf of a point far off", () -> Halls.withBody(9, 9, -9, 9), 0, 0, 0,
            (h, a) -> h.productOf(0, a));
        Sentence.of(7, "Throws `IndexOutOfBoundsException` if there is no such body");
        Edge.noBody("productOf", (h, n) -> h.productOf(n, 'z'));
        Edge.noBody("productOf with a wrong axis", (h, n) -> h.productOf(n, 'X'));
        Sentence.of(7, "Throws `IllegalArgumentException` if there is no such axis");
        Edge.noAxis("productOf", Halls::busy, (h, a) -> h.productOf(0, a));
        Edge.noAxis("productOf without masses", Halls::busy, (h, a) -> h.productOf(2, a));
    }

    /** The places of masses with their axes moved on by one: x stands on y, y on z, z on x. */
    static int[] movedOn(int... masses) {
        int[] moved = masses.clone();
        for (int i = 0; i < masses.length; i += 4) {
            moved[i + 1] = masses[i + 3];
            moved[i + 2] = masses[i + 1];
            moved[i + 3] = masses[i + 2];
        }
        return moved;
    }

    private static void dueKind(String what, char want, int... masses) {
        Check.due("kindOf of " + what, Halls.withBody(masses).kindOf(0), want);
        Check.due("kindOf of " + what + ", moved on", Halls.withBody(movedOn(masses)).kindOf(0), want);
        Check.due("kindOf of " + what + ", moved on twice", Halls.withBody(movedOn(movedOn(masses))).kindOf(0), want);
    }

    private static void kindOf() {
        Sentence.of(8, "Returns the kind of a body.");
        dueKind("one mass", 'r', 1, 0, 0, 0);
        dueKind("eight masses at one place", 'r', eightOf(9, 9, 9, 9));
        Sentence.of(8, "`body`: the body");
        Edge.inside("kindOf", BodyEdges::withRodAndCross, 0, 'r', 5, 'a', SpinHall::kindOf);
        Sentence.of(8, "Returns the letter.");
        dueKind("a rod", 'r', Halls.cross(9, 0, 0));
        dueKind("one alike", 's', Halls.cross(9, 9, 9));
        dueKind("a long one", 'p', Halls.cross(9, 8, 8));
        dueKind("a flat one", 'o', Halls.cross(8, 9, 9));
        dueKind("an unlike one", 'a', Halls.cross(7, 8, 9));
    }

    private static int[] eightOf(int... mass) {
        int[] masses = new int[32];
        for (int i = 0; i < masses.length; i++) {
            masses[i] = mass[i % 4];
        }
        return masses;
    }

    private static SpinHall withRodAndCross() {
        SpinHall hall = withBodies(6);
        Halls.addMasses(hall, 0, Halls.cross(0, 1, 0));
        Halls.addMasses(hall, 5, Halls.cross(1, 2, 4));
        return hall;
    }

    private static void kindOfRefused() {
        Sentence.of(8, "Throws `IndexOutOfBoundsException` if there is no such body");
        Edge.noBody("kindOf", SpinHall::kindOf);

        Sentence.of(8, "Throws `NoSuchElementException` if it has no masses");
        Check.refused(Halls::withBody, "kindOf of the only body", NONE, h -> h.kindOf(0));
        Check.refused(Halls::busy, "kindOf of one that spins and is turned", NONE, h -> h.kindOf(2));
        Check.due("kindOf with one mass", Halls.withBody(1, 9, 9, 9).kindOf(0), 'r');

        Sentence.of(8, "Throws `UnsupportedOperationException` if some product of it is not 0");
        // each is skew by one product alone, by the least that it can be, to either side
        Check.refused(() -> Halls.withBody(1, 1, 1, 0, 1, 0, 0, 0), "z -1", UNSUPPORTED, h -> h.kindOf(0));
        Check.refused(() -> Halls.withBody(1, 1, -1, 0, 1, 0, 0, 0), "z 1", UNSUPPORTED, h -> h.kindOf(0));
        Check.refused(() -> Halls.withBody(1, 1, 0, 1, 1, 0, 0, 0), "y -1", UNSUPPORTED, h -> h.kindOf(0));
        Check.refused(() -> Halls.withBody(1, 1, 0, -1, 1, 0, 0, 0), "y 1", UNSUPPORTED, h -> h.kindOf(0));
        Check.refused(() -> Halls.withBody(1, 0, 1, 1, 1, 0, 0, 0), "x -1", UNSUPPORTED, h -> h.kindOf(0));
        Check.refused(() -> Halls.withBody(1, 0, 1, -1, 1, 0, 0, 0), "x 1", UNSUPPORTED, h -> h.kindOf(0));
        Check.refused(Halls::full, "kindOf in the full hall", UNSUPPORTED, h -> h.kindOf(5));
        // a third and a fourth mass even out what makes the first two skew
        Check.due("kindOf of one that is skew no more",
            Halls.withBody(1, 1, 1, 0, 1, 1, -1, 0, 1, -1, 1, 0, 1, -1, -1, 0).kindOf(0), 'o');
    }

    private static void dueLoaded(String what, char want, int... masses) {
        Check.due("loadedAxis " + what, Halls.withBody(masses).loadedAxis(0), want);
    }

    private static void loadedAxis() {
        Sentence.of(9, "Returns the axis towards which a body is loaded.");
        dueLoaded("by the greatest sum", 'x', eightOf(9, 9, 8, 8));
        dueLoaded("by the least sum", 'Z', eightOf(9, 8, 8, -9));
        dueLoaded("by 1", 'y', 1, 0, 1, 0);
        Sentence.of(9, "`body`: the body");
        Edge.inside("loadedAxis", Halls::full, 0, 'Y', 5, 'z', SpinHall::loadedAxis);
        Sentence.of(9, "Returns that of the sum that is greatest without its sign, of like ones the first of 'x', "
            + "'y' and 'z'; as 'X', 'Y' or 'Z' if it is below 0; '-' if all are 0.");
        dueLoaded("with all alike", 'x', 1, 5, 5, 5);
        dueLoaded("with all alike, x below 0", 'X', 1, -5, 5, 5);
        dueLoaded("with all alike, y and z below 0", 'x', 1, 5, -5, -5);
        dueLoaded("with y and z alike", 'y', 1, 4, 5, -5);
        dueLoaded("with y and z alike, y below 0", 'Y', 1, 4, -5, 5);
        dueLoaded("with x and z alike", 'x', 1, 5, 4, -5);
        dueLoaded("with x and z alike, x below 0", 'X', 1, -5, 4, 5);
        dueLoaded("with x and y alike", 'x', 1, 5, -5, 4);
        dueLoaded("with y greater by 1", 'y', 1, 4, 5, 4);
        dueLoaded("with z greater by 1, below 0", 'Z', 1, 4, 4, -5);
        dueLoaded("with z greater by 1 than y", 'z', 1, 0, 4, 5);
        dueLoaded("with x -1", 'X', 1, -1, 0, 0);
        dueLoaded("with y -1", 'Y', 1, 0, -1, 0);
        dueLoaded("with z 1", 'z', 1, 0, 0, 1);
        dueLoaded("without masses", '-');
        dueLoaded("with a mass in the middle", '-', 9, 0, 0, 0);
        dueLoaded("with masses even to both sides", '-', 9, 1, -1, 1, 1, -9, 9, -9);
        dueLoaded("uneven by 1", 'x', 9, 1, 0, 0, 1, -8, 0, 0);
        Sentence.of(9, "Throws `IndexOutOfBoundsException` if there is no such body");
        Edge.noBody("loadedAxis", SpinHall::loadedAxis);
    }

    private static void terms() {
        Sentence.term("Bodies are masses with moments as exact numbers, turns are four whole numbers that are "
            + "composed without drift, sums of a free spin tell round which axis it goes, tops sleep, nod and fall "
            + "with no event passed over, wheels in a cage give way by what is pushed, a cat turns without a push, "
            + "wheels in a craft are full some time, and unknown spins are found from photographs.");
        Check.due("a turn without drift", backAndForth(), true);
        Check.due("no event passed over",
            Halls.withTops(300, 10, 1, 1, 10000, 9999, 99, 9, 9, 9, 5, 99, 9, 9, 9).run(999), 4);

        Sentence.term("What is kept is kept to the last digit.");
        Check.due("the greatest momentumOf", farCornersSpinning().momentumOf(0), 1200L * 839808 * 839808);
        Check.due("the greatest energyOf", farCornersSpinning().energyOf(0), 1200L * 839808);

        Sentence.term("At most 6 are numbered from 0, each of at most 8 masses, numbered from 0, of 1 to 9, at "
            + "places x, y and z from -9 to 9.");
        SpinHall all = new SpinHall();
        for (int body = 0; body < 6; body++) {
            Check.due("addBody()", all.addBody(), body);
            for (int mass = 0; mass < 8; mass++) {
                int side = mass % 2 == 0 ? 9 : -9;
                Check.due("addMass", all.addMass(body, 9, side, -side, side), mass);
            }
        }
        Check.due("massOf(0)", all.massOf(0), 72);
        Check.due("massOf(5)", all.massOf(5), 72);
        Check.due("placeOf(5, 7, 'x')", all.placeOf(5, 7, 'x'), -9000);
        Check.due("placeOf(5, 7, 'y')", all.placeOf(5, 7, 'y'), 9000);
        Check.due("placeOf(5, 0, 'z')", all.placeOf(5, 0, 'z'), 9000);
        Check.refused(Halls::full, "a seventh body", FULL, SpinHall::addBody);
        Check.refused(Halls::full, "a ninth mass", FULL, h -> h.addMass(3, 1, 0, 0, 0));

        Sentence.term("The sum for an axis is that of masses times their places on it.");
        Edge.axes("sumOf at both ends", () -> Halls.withBody(9, 9, -9, 0, 9, 9, -9, 0, 1, -9, 9, 1), 153, -153, 1,
            (h, a) -> h.sumOf(0, a));

        Sentence.term("The moment for an axis is the whole mass times the sum of masses times the squares of both "
            + "other places, less the squares of both other sums; the product for an axis is the product of both "
            + "other sums, less the whole mass times the sum of masses times both other places; so both are as "
            + "about the centre, times the whole mass.");
        // both are 2 times 3 times what the two masses are apart by 4, 6 and 5
        Edge.axes("momentOf of two", Halls::busy, 6 * (36 + 25), 6 * (16 + 25), 6 * (16 + 36),
            (h, a) -> h.momentOf(0, a));
        Edge.axes("productOf of two", Halls::busy, 6 * 6 * 5, -6 * 4 * 5, 6 * 4 * 6, (h, a) -> h.productOf(0, a));
        // moved as a whole, from one far corner to the other
        Supplier<SpinHall> low = () -> Halls.withBody(1, -9, -9, -9, 2, -8, -7, -6);
        Supplier<SpinHall> high = () -> Halls.withBody(1, 8, 7, 6, 2, 9, 9, 9);
        Edge.axes("momentOf at the low corner", low, 2 * (4 + 9), 2 * (1 + 9), 2 * (1 + 4), (h, a) -> h.momentOf(0, a));
        Edge.axes("momentOf at the high corner", high, 2 * (4 + 9), 2 * (1 + 9), 2 * (1 + 4),
            (h, a) -> h.momentOf(0, a));
        Edge.axes("productOf at the low corner", low, -2 * 2 * 3, -2 * 3, -2 * 2, (h, a) -> h.productOf(0, a));
        Edge.axes("productOf at the high corner", high, -2 * 2 * 3, -2 * 3, -2 * 2, (h, a) -> h.productOf(0, a));
    }

    private static boolean backAndForth() {
        SpinHall hall = Halls.withBody();
        boolean isBack = false;
        for (int i = 0; i < 200; i++) {
            hall.turn(0, 9, 7, -3, 1);
            isBack = hall.turn(0, 9, -7, 3, -1);
        }
        return isBack;
    }

    private static SpinHall farCornersSpinning() {
        SpinHall hall = Halls.withFarCorners(9, 9, 9);
        hall.setSpin(0, -20, 20, -20);
        return hall;
    }

    private static void termOfKinds() {
        Sentence.term("If all three products are 0, the kind of a body is 'r' a rod, or a point, if some moment is "
            + "0, 's' if all moments are alike, 'p' long, if two are alike and the third one is less, 'o' flat, if "
            + "it is more, 'a' if all are unlike.");
        dueKind("moments 0, 0, 0", 'r', 9, 9, 9, 9);
        dueKind("moments 0, 1, 1", 'r', 1, 0, 0, 0, 1, 1, 0, 0);
        dueKind("moments 12, 972, 984", 'a', Halls.cross(9, 1, 0));
        dueKind("moments 32, 32, 32", 's', 1, 1, 0, 0, 1, -1, 0, 0, 1, 0, -1, 0, 1, 0, 1, 0, 4, 0, 0, 1);
        dueKind("moments 26, 26, 28", 'o', 1, 1, 0, 0, 1, -1, 0, 0, 1, 0, -1, 0, 1, 0, 1, 0, 3, 0, 0, 1);
        dueKind("moments 26, 26, 20", 'p', 1, 1, 0, 0, 1, -1, 0, 0, 1, 0, -1, 0, 1, 0, 1, 0, 1, 0, 0, 2);
        dueKind("moments 31, 63, 64", 'a', 2, -1, 0, 0, 1, 2, 0, 0, 1, 0, -1, 0, 1, 0, 1, 0, 3, 0, 0, -1);
        dueKind("moments 63, 31, 64", 'a', 1, -1, 0, 0, 1, 1, 0, 0, 2, 0, 1, 0, 1, 0, -2, 0, 3, 0, 0, 1);
        dueKind("moments 20, 21, 41", 'a', 3, 1, 0, 0, 4, 0, 0, 0, 1, 0, -1, 0, 1, 0, 1, 0, 1, 0, 0, 0);
        dueKind("moments 16, 15, 31", 'a', 1, 0, 0, 0, 3, 1, 0, 0, 1, 0, -1, 0, 1, 0, 1, 0, 2, 0, 0, 0);
    }
}
