/** The edges of promises 28 and 29, and of what the Terms say of rolling. */
final class RollingEdges {
    private RollingEdges() {
    }

    static void all() {
        slips();
        speedSquare();
        terms();
    }

    private static void slips() {
        Sentence.of(28, "Tells whether one slips on a slope.");
        Check.due("the steepest slope with the most friction", new SpinHall().slips('h', 999, 1, 200), true);
        Check.due("the least steep one without friction", new SpinHall().slips('b', 1, 999, 0), true);
        Sentence.of(28, "`kind`: 'h', 'd' or 'b'");
        Check.due("a hoop", new SpinHall().slips('h', 5, 2, 100), true);
        Check.due("a disc", new SpinHall().slips('d', 5, 2, 100), false);
        Check.due("a ball", new SpinHall().slips('b', 13, 4, 100), false);
        Edge.noKind("slips", (h, k) -> h.slips(k, 1, 1, 1));
        Sentence.of(28, "`rise`: 0 to 999");
        Edge.inside("slips", Halls::none, 0, false, 999, true, (h, n) -> h.slips('h', n, 1, 0));
        Edge.outside("slips rise", Halls::busy, 0, 999, (h, n) -> h.slips('h', n, 1, 0));
        Sentence.of(28, "`along`: the run, 1 to 999");
        Edge.inside("slips", Halls::none, 1, true, 999, false, (h, n) -> h.slips('d', 989, n, 33));
        Edge.outside("slips along", Halls::busy, 1, 999, (h, n) -> h.slips('d', 1, n, 1));
        Sentence.of(28, "`friction`: 0 to 200");
        Edge.inside("slips", Halls::none, 0, true, 200, false, (h, n) -> h.slips('b', 7, 1, n));
        Edge.outside("slips friction", Halls::busy, 0, 200, (h, n) -> h.slips('b', 1, 1, n));
        Sentence.of(28, "Returns true if so.");
        dueSlips('h', 4, 1, 200, false);
        dueSlips('h', 5, 1, 200, true);
        dueSlips('d', 6, 1, 200, false);
        dueSlips('d', 7, 1, 200, true);
        dueSlips('b', 7, 1, 200, false);
        dueSlips('b', 8, 1, 200, true);
        dueSlips('h', 999, 999, 50, false);
        dueSlips('h', 999, 999, 49, true);
        dueSlips('b', 999, 999, 200, false);
        Sentence.of(28, "Throws `IllegalArgumentException` if there is no such kind, or a number is out of range");
        Edge.noKind("slips with wrong numbers", (h, k) -> h.slips(k, -1, 0, 201));
        Check.refused(Halls::full, "slips with all beyond the most", Edge.WRONG, h -> h.slips('h', 1000, 1000, 201));
        Check.refused(Halls::full, "slips with all beyond the least", Edge.WRONG, h -> h.slips('d', -1, 0, -1));
    }

    private static void dueSlips(char kind, int rise, int along, int friction, boolean want) {
        Check.due("slips " + kind + " " + rise + " " + along + " " + friction,
            new SpinHall().slips(kind, rise, along, friction), want);
    }

    private static void speedSquare() {
        Sentence.of(29, "Returns the square of the speed of one that rolled down.");
        Check.due("the greatest", new SpinHall().speedSquare('b', 9999), 142842);
        Sentence.of(29, "`kind`: 'h', 'd' or 'b'");
        Check.due("a hoop", new SpinHall().speedSquare('h', 21), 210);
        Check.due("a disc", new SpinHall().speedSquare('d', 21), 280);
        Check.due("a ball", new SpinHall().speedSquare('b', 21), 300);
        Edge.noKind("speedSquare", (h, k) -> h.speedSquare(k, 1));
        Sentence.of(29, "`height`: 0 to 9999");
        Edge.inside("speedSquare of a hoop", Halls::none, 0, 0, 9999, 99990, (h, n) -> h.speedSquare('h', n));
        Edge.inside("speedSquare of a disc", Halls::none, 0, 0, 9999, 133320, (h, n) -> h.speedSquare('d', n));
        Edge.inside("speedSquare of a ball", Halls::none, 0, 0, 9999, 142842, (h, n) -> h.speedSquare('b', n));
        Edge.outside("speedSquare height", Halls::busy, 0, 9999, (h, n) -> h.speedSquare('b', n));
        Sentence.of(29, "Returns the square, rounded down to a whole number.");
        Check.due("13 and a third", new SpinHall().speedSquare('d', 1), 13);
        Check.due("26 and two thirds", new SpinHall().speedSquare('d', 2), 26);
        Check.due("40", new SpinHall().speedSquare('d', 3), 40);
        Check.due("14 and two sevenths", new SpinHall().speedSquare('b', 1), 14);
        Check.due("85 and five sevenths", new SpinHall().speedSquare('b', 6), 85);
        Check.due("114 and two sevenths", new SpinHall().speedSquare('b', 8), 114);
        Sentence.of(29, "Throws `IllegalArgumentException` if there is no such kind, or a number is out of range");
        Edge.noKind("speedSquare with a wrong height", (h, k) -> h.speedSquare(k, 10000));
        Edge.outside("speedSquare height of a hoop", Halls::full, 0, 9999, (h, n) -> h.speedSquare('h', n));
        Edge.outside("speedSquare height of a disc", Halls::full, 0, 9999, (h, n) -> h.speedSquare('d', n));
    }

    private static void terms() {
        Sentence.term("A hoop 'h', a disc 'd' and a ball 'b' have 1, a half and two fifths of the moment that all "
            + "of the mass at the rim would have, k.");
        Check.due("20 by 1 and 1", new SpinHall().speedSquare('h', 1), 10);
        Check.due("60 by 1 and a half", new SpinHall().speedSquare('d', 3), 40);
        Check.due("140 by 1 and two fifths", new SpinHall().speedSquare('b', 7), 100);
        Check.refused(Halls::busy, "speedSquare of another one", Edge.WRONG, h -> h.speedSquare('r', 7));

        Sentence.term("On a slope one slips, if the rise by the run is more than the friction, in hundredths, "
            + "times 1 and 1 divided by k.");
        dueSlips('h', 60, 100, 30, false);
        dueSlips('h', 61, 100, 30, true);
        dueSlips('d', 90, 100, 30, false);
        dueSlips('d', 91, 100, 30, true);
        dueSlips('b', 105, 100, 30, false);
        dueSlips('b', 106, 100, 30, true);
        dueSlips('h', 0, 1, 0, false);
        dueSlips('h', 1, 1, 0, true);

        Sentence.term("The square of the speed, having come down by a height, is 20 times the height, divided by 1 "
            + "and k.");
        Check.due("without a height", new SpinHall().speedSquare('h', 0), 0);
        Check.due("with the least one", new SpinHall().speedSquare('h', 1), 10);
        Check.due("with the greatest one", new SpinHall().speedSquare('h', 9999), 99990);
    }
}
