import java.util.NoSuchElementException;
import java.util.function.Supplier;

/** The edges of promises 10 to 14, and of what the Terms say of free spins. */
final class SpinEdges {
    private static final Class<?> NONE = NoSuchElementException.class;
    private static final Class<?> UNSUPPORTED = UnsupportedOperationException.class;

    private SpinEdges() {
    }

    static void all() {
        setSpin();
        energyOf();
        momentumOf();
        firmness();
        goesRound();
        goesRoundRefused();
        terms();
        termOfAxes();
    }

    /** Moments 240, 204 and 60. */
    private static SpinHall unlike() {
        return Halls.withBody(Halls.cross(1, 2, 4));
    }

    private static SpinHall spun(SpinHall hall, int p, int q, int r) {
        hall.setSpin(0, p, q, r);
        return hall;
    }

    private static void setSpin() {
        Sentence.of(10, "Sets the spin of a body.");
        Check.due("energyOf behind a second setSpin", spun(spun(unlike(), 20, 20, 20), 0, 0, 1).energyOf(0), 60L);
        Check.due("setSpin back to 0", spun(unlike(), 20, 20, 20).setSpin(0, 0, 0, 0), 0L);
        Sentence.of(10, "`body`: the body");
        Edge.inside("setSpin", Halls::full, 0, 27216L, 5, 20916L, (h, n) -> h.setSpin(n, 1, 0, 0));
        SpinHall six = Halls.full();
        six.setSpin(5, 1, 0, 0);
        Check.due("energyOf the body ahead of it", six.energyOf(4), 164496384L);

        Sentence.of(10, "`p`: the spin about x, -20 to 20");
        Edge.inside("setSpin p", SpinEdges::unlike, -20, 400L * 240, 20, 400L * 240, (h, n) -> h.setSpin(0, n, 0, 0));
        Edge.outside("setSpin p", Halls::busy, -20, 20, (h, n) -> h.setSpin(0, n, 0, 0));
        Sentence.of(10, "`q`: that about y");
        Edge.inside("setSpin q", SpinEdges::unlike, -20, 400L * 204, 20, 400L * 204, (h, n) -> h.setSpin(0, 0, n, 0));
        Edge.outside("setSpin q", Halls::busy, -20, 20, (h, n) -> h.setSpin(0, 0, n, 0));
        Sentence.of(10, "`r`: that about z");
        Edge.inside("setSpin r", SpinEdges::unlike, -20, 400L * 60, 20, 400L * 60, (h, n) -> h.setSpin(0, 0, 0, n));
        Edge.outside("setSpin r", Halls::busy, -20, 20, (h, n) -> h.setSpin(0, 0, 0, n));

        Sentence.of(10, "Returns the energy.");
        Check.due("the greatest", Halls.withFarCorners(9, 9, 9).setSpin(0, 20, -20, 20), 1200L * 839808);
        Check.due("without masses", Halls.withBody().setSpin(0, 20, 20, 20), 0L);
        Check.due("of a rod along its axis", Halls.withBody(Halls.cross(9, 0, 0)).setSpin(0, 20, 0, 0), 0L);

        Sentence.of(10, "Throws `IndexOutOfBoundsException` if there is no such body");
        Edge.noBody("setSpin", (h, n) -> h.setSpin(n, 1, 1, 1));
        Edge.noBody("setSpin with a wrong p", (h, n) -> h.setSpin(n, 21, 0, 0));
        Edge.noBody("setSpin with a wrong r", (h, n) -> h.setSpin(n, 0, 0, -21));
        Sentence.of(10, "Throws `IllegalArgumentException` if a number is out of range");
        Edge.outside("setSpin p of the last body", Halls::full, -20, 20, (h, n) -> h.setSpin(5, n, 1, 1));
        Edge.outside("setSpin q of the last body", Halls::full, -20, 20, (h, n) -> h.setSpin(5, 1, n, 1));
        Edge.outside("setSpin r of the last body", Halls::full, -20, 20, (h, n) -> h.setSpin(5, 1, 1, n));
    }

    private static void energyOf() {
        Sentence.of(11, "Returns the energy of a body.");
        Check.due("the greatest", spun(Halls.withFarCorners(9, 9, 9), -20, -20, -20).energyOf(0), 1200L * 839808);
        Check.due("the least above 0", spun(Halls.withBody(1, 0, 0, 0, 1, 1, 0, 0), 20, -1, 0).energyOf(0), 1L);
        Sentence.of(11, "`body`: the body");
        Edge.inside("energyOf", Halls::full, 0, 178848000L, 5, 162562500L, SpinHall::energyOf);
        Sentence.of(11, "Returns the energy.");
        Check.due("without a spin", unlike().energyOf(0), 0L);
        Check.due("without masses", Halls.busy().energyOf(2), 0L);
        Sentence.of(11, "Throws `IndexOutOfBoundsException` if there is no such body");
        Edge.noBody("energyOf", SpinHall::energyOf);
    }

    private static void momentumOf() {
        Sentence.of(12, "Returns the square of the momentum of a body.");
        Check.due("the greatest", spun(Halls.withFarCorners(9, 9, 9), 20, 20, 20).momentumOf(0),
            1200L * 839808 * 839808);
        Check.due("the least above 0", spun(Halls.withBody(1, 0, 0, 0, 1, 1, 0, 0), 20, 0, -1).momentumOf(0), 1L);
        Sentence.of(12, "`body`: the body");
        Edge.inside("momentumOf", Halls::full, 0, 70824031948800L, 5, 56129843494800L, SpinHall::momentumOf);
        Sentence.of(12, "Returns the square.");
        Check.due("without a spin", unlike().momentumOf(0), 0L);
        Check.due("without masses", Halls.busy().momentumOf(2), 0L);
        Sentence.of(12, "Throws `IndexOutOfBoundsException` if there is no such body");
        Edge.noBody("momentumOf", SpinHall::momentumOf);
    }

    private static SpinHall withSixUnlike() {
        SpinHall hall = Halls.withSixBodies();
        Halls.addMasses(hall, 0, Halls.cross(1, 2, 4));
        Halls.addMasses(hall, 5, Halls.cross(2, 1, 4));
        hall.setSpin(0, 1, 0, 0);
        hall.setSpin(5, 0, 0, 1);
        return hall;
    }

    private static void firmness() {
        Sentence.of(13, "Returns how firm an axis of a body is.");
        Edge.axes("without masses", Halls::withBody, '-', '-', '-', (h, a) -> h.firmness(0, a));
        Edge.axes("of a point", () -> Halls.withBody(9, 9, 9, 9), '-', '-', '-', (h, a) -> h.firmness(0, a));
        Sentence.of(13, "`body`: the body");
        Edge.inside("firmness x", SpinEdges::withSixUnlike, 0, 'f', 5, 'l', (h, n) -> h.firmness(n, 'x'));
        Sentence.of(13, "`axis`: 'x', 'y' or 'z'");
        Edge.axes("of unlike moments", SpinEdges::unlike, 'f', 'l', 'f', (h, a) -> h.firmness(0, a));
        Sentence.of(13, "Returns 'f', 'l' or '-'.");
        Edge.axes("of a rod", () -> Halls.withBody(1, 0, 0, 0, 1, 1, 0, 0), 'f', '-', '-', (h, a) -> h.firmness(0, a));
        Edge.axes("of all alike", () -> Halls.withBody(Halls.cross(9, 9, 9)), '-', '-', '-',
            (h, a) -> h.firmness(0, a));

        Sentence.of(13, "Throws `IndexOutOfBoundsException` if there is no such body");
        Edge.noBody("firmness", (h, n) -> h.firmness(n, 'x'));
        Edge.noBody("firmness with a wrong axis", (h, n) -> h.firmness(n, 'w'));
        Sentence.of(13, "Throws `IllegalArgumentException` if there is no such axis");
        Edge.noAxis("firmness", Halls::busy, (h, a) -> h.firmness(1, a));
        Edge.noAxis("firmness without masses", Halls::busy, (h, a) -> h.firmness(2, a));
        Edge.noAxis("firmness of a skew body", Halls::busy, (h, a) -> h.firmness(0, a));
        Sentence.of(13, "Throws `UnsupportedOperationException` if some product of it is not 0");
        for (char axis : new char[] {'x', 'y', 'z'}) {
            Check.refused(() -> Halls.withBody(1, 1, 1, 0, 1, 0, 0, 0), "z -1", UNSUPPORTED, h -> h.firmness(0, axis));
            Check.refused(() -> Halls.withBody(1, 1, 0, -1, 1, 0, 0, 0), "y 1", UNSUPPORTED, h -> h.firmness(0, axis));
            Check.refused(() -> Halls.withBody(1, 0, 1, 1, 1, 0, 0, 0), "x -1", UNSUPPORTED, h -> h.firmness(0, axis));
            Check.refused(Halls::full, "in the full hall", UNSUPPORTED, h -> h.firmness(5, axis));
        }
    }

    private static void goesRound() {
        Sentence.of(14, "Returns round which axis the spin of a body goes.");
        Check.due("with the greatest spin", spun(unlike(), 20, 20, 20).goesRound(0), '-');
        Check.due("with the least spin", spun(unlike(), 0, 0, -1).goesRound(0), 'z');
        Sentence.of(14, "`body`: the body");
        Edge.inside("goesRound", SpinEdges::withSixUnlike, 0, 'x', 5, 'z', SpinHall::goesRound);
        Sentence.of(14, "Returns 'x', 'y', 'z' or '-'.");
        Check.due("x, the greatest", spun(Halls.withBody(Halls.cross(1, 2, 4)), 1, 0, 0).goesRound(0), 'x');
        Check.due("y, the greatest", spun(Halls.withBody(Halls.cross(2, 1, 4)), 0, 1, 0).goesRound(0), 'y');
        Check.due("z, the greatest", spun(Halls.withBody(Halls.cross(4, 2, 1)), 0, 0, 1).goesRound(0), 'z');
        Check.due("x, the least", spun(Halls.withBody(Halls.cross(4, 2, 1)), 1, 0, 0).goesRound(0), 'x');
        Check.due("y, the least", spun(Halls.withBody(Halls.cross(2, 4, 1)), 0, 1, 0).goesRound(0), 'y');
        Check.due("z, the least", spun(Halls.withBody(Halls.cross(1, 2, 4)), 0, 0, 1).goesRound(0), 'z');
        Check.due("none, round the middle one alone", spun(unlike(), 0, -20, 0).goesRound(0), '-');
    }

    private static SpinHall skewAndUnlike() {
        return spun(Halls.withBody(1, 1, 2, 0, 1, 0, 0, 3), 1, 2, 3);
    }

    private static void goesRoundRefused() {
        Sentence.of(14, "Throws `IndexOutOfBoundsException` if there is no such body");
        Edge.noBody("goesRound", SpinHall::goesRound);

        Sentence.of(14, "Throws `UnsupportedOperationException` if it is not 'a', for which all products must be 0");
        Supplier<SpinHall> rod = () -> spun(Halls.withBody(Halls.cross(9, 0, 0)), 1, 1, 1);
        Check.refused(rod, "a rod", UNSUPPORTED, h -> h.goesRound(0));
        Check.refused(() -> spun(Halls.withBody(Halls.cross(9, 9, 9)), 1, 1, 1), "alike", UNSUPPORTED,
            h -> h.goesRound(0));
        Check.refused(() -> spun(Halls.withBody(Halls.cross(9, 8, 8)), 1, 1, 1), "long", UNSUPPORTED,
            h -> h.goesRound(0));
        Check.refused(() -> spun(Halls.withBody(Halls.cross(8, 9, 9)), 1, 1, 1), "flat", UNSUPPORTED,
            h -> h.goesRound(0));
        Check.refused(SpinEdges::skewAndUnlike, "skew with unlike moments", UNSUPPORTED, h -> h.goesRound(0));
        Check.refused(() -> spun(skewAndUnlike(), 0, 0, 0), "skew, without a spin", UNSUPPORTED, h -> h.goesRound(0));
        Check.refused(Halls::busy, "without masses, with a spin", UNSUPPORTED, h -> h.goesRound(2));
        Check.refused(Halls::withBody, "without masses, without a spin", UNSUPPORTED, h -> h.goesRound(0));
        Check.refused(() -> Halls.withBody(Halls.cross(9, 0, 0)), "a rod without a spin", UNSUPPORTED,
            h -> h.goesRound(0));
        Check.refused(Halls::full, "in the full hall", UNSUPPORTED, h -> h.goesRound(5));

        Sentence.of(14, "Throws `NoSuchElementException` if it does not spin");
        Check.refused(SpinEdges::unlike, "at first", NONE, h -> h.goesRound(0));
        Check.refused(() -> spun(spun(unlike(), 20, -20, 20), 0, 0, 0), "behind a spin", NONE, h -> h.goesRound(0));
        Check.due("with p alone", spun(unlike(), -1, 0, 0).goesRound(0), 'x');
        Check.due("with q alone", spun(unlike(), 0, -1, 0).goesRound(0), '-');
        Check.due("with r alone", spun(unlike(), 0, 0, 1).goesRound(0), 'z');
    }

    private static void terms() {
        Sentence.term("A body has a spin, three whole numbers from -20 to 20, 0 at first, about the axes.");
        Check.due("energyOf at first", unlike().energyOf(0), 0L);
        Check.due("momentumOf at first", unlike().momentumOf(0), 0L);
        Check.due("setSpin at the least", unlike().setSpin(0, -20, -20, -20), 400L * (240 + 204 + 60));
        Check.due("setSpin at the most", unlike().setSpin(0, 20, 20, 20), 400L * (240 + 204 + 60));
        Check.refused(Halls::busy, "setSpin beyond the most", Edge.WRONG, h -> h.setSpin(0, 20, 20, 21));
        Check.refused(Halls::busy, "setSpin beyond the least", Edge.WRONG, h -> h.setSpin(0, -21, -20, -20));

        Sentence.term("The energy is the sum of moments times the squares of spins, the square of the momentum "
            + "that of squares of moments times the squares of spins.");
        Check.due("energyOf", spun(unlike(), -3, 2, -1).energyOf(0), 9L * 240 + 4 * 204 + 60);
        Check.due("momentumOf", spun(unlike(), -3, 2, -1).momentumOf(0), 9L * 240 * 240 + 4 * 204 * 204 + 60 * 60);
        SpinHall more = spun(unlike(), -3, 2, -1);
        more.addMass(0, 6, 0, 0, 0);
        Check.due("energyOf with masses more", more.energyOf(0), 2 * (9L * 240 + 4 * 204 + 60));
    }

    private static void termOfAxes() {
        Sentence.term("An axis is firm 'f', if its moment is greater than both others or less than both, loose "
            + "'l', if it is greater than one and less than the other one, else '-'.");
        // moments 31, 63, 64, then moved on
        int[] close = {2, -1, 0, 0, 1, 2, 0, 0, 1, 0, -1, 0, 1, 0, 1, 0, 3, 0, 0, -1};
        dueFirmness("less by 32, between by 1, more by 1", close, "flf");
        dueFirmness("moved on", BodyEdges.movedOn(close), "ffl");
        dueFirmness("moved on twice", BodyEdges.movedOn(BodyEdges.movedOn(close)), "lff");
        // moments 16, 15, 31, then moved on
        int[] low = {1, 0, 0, 0, 3, 1, 0, 0, 1, 0, -1, 0, 1, 0, 1, 0, 2, 0, 0, 0};
        dueFirmness("between by 1, less by 1", low, "lff");
        dueFirmness("between by 1, less by 1, moved on", BodyEdges.movedOn(low), "flf");
        dueFirmness("between by 1, less by 1, moved on twice", BodyEdges.movedOn(BodyEdges.movedOn(low)), "ffl");
        // moments 26, 26, 28 and 26, 26, 20, then moved on
        int[] flat = {1, 1, 0, 0, 1, -1, 0, 0, 1, 0, -1, 0, 1, 0, 1, 0, 3, 0, 0, 1};
        dueFirmness("two alike, one more", flat, "--f");
        dueFirmness("two alike, one more, moved on", BodyEdges.movedOn(flat), "f--");
        dueFirmness("two alike, one more, moved on twice", BodyEdges.movedOn(BodyEdges.movedOn(flat)), "-f-");
        int[] tall = {1, 1, 0, 0, 1, -1, 0, 0, 1, 0, -1, 0, 1, 0, 1, 0, 1, 0, 0, 2};
        dueFirmness("two alike, one less", tall, "--f");
        dueFirmness("two alike, one less, moved on", BodyEdges.movedOn(tall), "f--");
        dueFirmness("two alike, one less, moved on twice", BodyEdges.movedOn(BodyEdges.movedOn(tall)), "-f-");

        Sentence.term("A spin of a body that is 'a' goes round the axis of the greatest moment, if the square of "
            + "the momentum is more than the energy times the middle moment, round that of the least one, if it is "
            + "less, and round none '-', if it is as much.");
        dueRound("as much", 1, 0, 1, '-');
        dueRound("as much, at the end of the range", 20, 0, -20, '-');
        dueRound("as much, whatever goes round the middle one", -7, 20, 7, '-');
        dueRound("a bit more", 20, 20, 19, 'x');
        dueRound("a bit less", 19, 20, 20, 'z');
        dueRound("a bit more, below 0", -8, 1, -7, 'x');
        dueRound("a bit less, below 0", -7, 1, -8, 'z');
        // with the moments 41, 36, 29 it is 2522, where 70 times 36 are 2520; with 3, 11, 8 it is 565, where 71 times 8
        // are 568
        SpinHall more = Halls.withBody(1, 1, 0, -1, 1, -1, 0, -1, 1, 0, -1, 1, 1, 0, 1, 1, 1, 0, 1, 0, 1, 0, 0, 0);
        Check.due("goesRound, more by 2 alone", spun(more, 1, 0, 1).goesRound(0), 'x');
        SpinHall less = Halls.withBody(1, 1, 0, 0, 1, -1, 0, 0, 1, 0, 0, -1, 1, 0, 0, 0);
        Check.due("goesRound, less by 3 alone", spun(less, 3, 2, 0).goesRound(0), 'x');
    }

    private static void dueFirmness(String what, int[] masses, String want) {
        SpinHall hall = Halls.withBody(masses);
        Check.due("firmness, " + what, "" + hall.firmness(0, 'x') + hall.firmness(0, 'y') + hall.firmness(0, 'z'),
            want);
    }

    /** The body's sides balance with like spins about x, its greatest moment, and z, its least one. */
    private static void dueRound(String what, int p, int q, int r, char want) {
        Check.due("goesRound, " + what, spun(unlike(), p, q, r).goesRound(0), want);
    }
}
