import java.util.NoSuchElementException;

/** The edges of promises 40 to 44, and of what the Terms say of photographs. */
final class PhotographEdges {
    private static final Class<?> FULL = IllegalStateException.class;
    private static final Class<?> NONE = NoSuchElementException.class;

    private PhotographEdges() {
    }

    static void all() {
        seen();
        photograph();
        clearPhotographs();
        rates();
        slowestRate();
        terms();
    }

    private static void seen() {
        Sentence.of(40, "Returns by how much a thing is seen to have turned.");
        Check.due("not at all", new SpinHall().seen(0, 50), 0);
        Check.due("by a whole turn", new SpinHall().seen(360, 1), 0);
        Sentence.of(40, "`rate`: -1800 to 1800");
        Edge.inside("seen", Halls::none, -1800, 0, 1800, 0, (h, n) -> h.seen(n, 1));
        Edge.inside("seen one inside", Halls::none, -1799, 1, 1799, -1, (h, n) -> h.seen(n, 1));
        Edge.outside("seen", Halls::busy, -1800, 1800, (h, n) -> h.seen(n, 1));
        Sentence.of(40, "`gap`: 1 to 50");
        Edge.inside("seen", Halls::none, 1, 7, 50, -10, (h, n) -> h.seen(7, n));
        Edge.outside("seen", Halls::busy, 1, 50, (h, n) -> h.seen(7, n));
        Sentence.of(40, "Returns the degrees, -179 to 180.");
        dueSeen(179, 1, 179);
        dueSeen(180, 1, 180);
        dueSeen(181, 1, -179);
        dueSeen(359, 1, -1);
        dueSeen(361, 1, 1);
        dueSeen(-179, 1, -179);
        dueSeen(-180, 1, 180);
        dueSeen(-181, 1, 179);
        dueSeen(-359, 1, 1);
        dueSeen(-360, 1, 0);
        dueSeen(-361, 1, -1);
        dueSeen(90, 2, 180);
        dueSeen(-90, 2, 180);
        dueSeen(1799, 50, -50);
        dueSeen(-1799, 50, 50);
        dueSeen(1800, 50, 0);
        dueSeen(-1800, 50, 0);
        dueSeen(1620, 1, 180);
        dueSeen(-1620, 1, 180);
        dueSeen(-1621, 1, 179);
        Sentence.of(40, "Throws `IllegalArgumentException` if a number is out of range");
        Edge.outside("rate of seen in the full hall", Halls::full, -1800, 1800, (h, n) -> h.seen(n, 50));
        Edge.outside("gap of seen in the full hall", Halls::full, 1, 50, (h, n) -> h.seen(-1800, n));
    }

    private static void dueSeen(int rate, int gap, int want) {
        Check.due("seen(" + rate + ", " + gap + ")", new SpinHall().seen(rate, gap), want);
    }

    private static void photograph() {
        Sentence.of(41, "Tells a photograph.");
        Check.due("rates() behind it", Halls.withPhotographs(1, 7).rates(), 10);
        Sentence.of(41, "`gap`: 1 to 50");
        Edge.inside("photograph", Halls::none, 1, 1, 50, 1, (h, n) -> h.photograph(n, 0));
        Edge.inside("rates() behind photograph", Halls::none, 1, 11, 50, 101, (h, n) -> {
            h.photograph(n, 0);
            return h.rates();
        });
        Edge.outside("photograph", Halls::busy, 1, 50, (h, n) -> h.photograph(n, 0));
        Sentence.of(41, "`seen`: -179 to 180");
        Edge.inside("photograph", Halls::none, -179, 1, 180, 1, (h, n) -> h.photograph(1, n));
        Edge.inside("slowestRate() behind photograph", Halls::none, -179, -179, 180, 180, (h, n) -> {
            h.photograph(1, n);
            return h.slowestRate();
        });
        Edge.outside("photograph", Halls::busy, -179, 180, (h, n) -> h.photograph(1, n));
        Sentence.of(41, "Returns how many there are.");
        Check.due("the first", new SpinHall().photograph(1, 0), 1);
        Check.due("the second, a like one", Halls.withPhotographs(1, 0).photograph(1, 0), 2);
        Check.due("the sixth", Halls.withPhotographs(1, 0, 1, 0, 1, 0, 1, 0, 1, 0).photograph(50, 180), 6);
        Sentence.of(41, "Throws `IllegalArgumentException` if a number is out of range");
        Edge.outside("gap of photograph with 6", Halls::full, 1, 50, (h, n) -> h.photograph(n, 0));
        Edge.outside("seen of photograph with 6", Halls::full, -179, 180, (h, n) -> h.photograph(1, n));
        Sentence.of(41, "Throws `IllegalStateException` if there are 6");
        Check.refused(Halls::withSixPhotographs, "a seventh", FULL, h -> h.photograph(7, 70));
        Check.refused(Halls::withSixPhotographs, "a seventh, as the sixth", FULL, h -> h.photograph(6, 60));
        Check.refused(Halls::full, "a seventh in the full hall", FULL, h -> h.photograph(50, -179));
    }

    private static void clearPhotographs() {
        Sentence.of(42, "Takes all photographs away.");
        SpinHall hall = Halls.withSixPhotographs();
        hall.clearPhotographs();
        Check.due("rates() behind it", hall.rates(), 3601);
        Check.due("slowestRate() behind it", hall.slowestRate(), 0);
        for (int count = 1; count <= 6; count++) {
            Check.due("photograph behind it", hall.photograph(1, 90), count);
        }
        Check.due("slowestRate() behind six others", hall.slowestRate(), 90);
        Sentence.of(42, "Returns how many there were.");
        Check.due("of none", new SpinHall().clearPhotographs(), 0);
        Check.due("of one", Halls.withPhotographs(1, 0).clearPhotographs(), 1);
        Check.due("of six", Halls.withSixPhotographs().clearPhotographs(), 6);
        SpinHall twice = Halls.withSixPhotographs();
        twice.clearPhotographs();
        Check.due("of six, once more", twice.clearPhotographs(), 0);
    }

    private static void rates() {
        Sentence.of(43, "Returns how many rates suit all photographs.");
        Check.due("without photographs, all", new SpinHall().rates(), 3601);
        Check.due("with six that suit", Halls.withSixPhotographs().rates(), 10);
        Check.due("with six, of which the sixth does not suit",
            Halls.withPhotographs(1, 10, 2, 20, 3, 30, 4, 40, 5, 50, 6, 61).rates(), 0);
        Check.due("with six, of which the first does not suit",
            Halls.withPhotographs(1, 11, 2, 20, 3, 30, 4, 40, 5, 50, 6, 60).rates(), 0);
        Sentence.of(43, "Returns how many.");
        Check.due("both ends of the rates count", Halls.withPhotographs(1, 0).rates(), 11);
        Check.due("1799, but not 1801", Halls.withPhotographs(1, -1).rates(), 10);
        Check.due("-1799, but not -1801", Halls.withPhotographs(1, 1).rates(), 10);
        Check.due("180 and -180 alike", Halls.withPhotographs(1, 180).rates(), 10);
        Check.due("over the greatest gap", Halls.withPhotographs(50, 0).rates(), 101);
        Check.due("over the greatest gap, 180", Halls.withPhotographs(50, 180).rates(), 100);
        Check.due("over an even gap, seen by an odd number", Halls.withPhotographs(2, 179).rates(), 0);
        Check.due("two that shut each other out", Halls.withPhotographs(1, 0, 1, 180).rates(), 0);
    }

    private static void slowestRate() {
        Sentence.of(44, "Returns the rate that suits and is least without its sign, of two the one above 0.");
        Check.due("without photographs", new SpinHall().slowestRate(), 0);
        Check.due("180 and -180", Halls.withPhotographs(1, 180).slowestRate(), 180);
        Check.due("90 and -90", Halls.withPhotographs(2, 180).slowestRate(), 90);
        Check.due("18 and -18 over a gap of 10", Halls.withPhotographs(10, 180).slowestRate(), 18);
        Check.due("179 and -181", Halls.withPhotographs(1, 179).slowestRate(), 179);
        Check.due("181 and -179", Halls.withPhotographs(1, -179).slowestRate(), -179);
        Check.due("91 and -89", Halls.withPhotographs(2, -178).slowestRate(), -89);
        Check.due("89 and -91", Halls.withPhotographs(2, 178).slowestRate(), 89);
        Sentence.of(44, "Returns the rate.");
        Check.due("1", Halls.withPhotographs(1, 1).slowestRate(), 1);
        Check.due("-1", Halls.withPhotographs(1, -1).slowestRate(), -1);
        Check.due("-1, over the greatest gap", Halls.withPhotographs(50, -50).slowestRate(), -1);
        Check.due("with six", Halls.withSixPhotographs().slowestRate(), 10);
        Sentence.of(44, "Throws `NoSuchElementException` if none suits");
        Check.refused(() -> Halls.withPhotographs(2, 1), "one that no rate suits", NONE, SpinHall::slowestRate);
        Check.refused(() -> Halls.withPhotographs(1, 0, 1, 180), "two that shut each other out", NONE,
            SpinHall::slowestRate);
        Check.refused(() -> Halls.withPhotographs(1, 10, 2, 20, 3, 30, 4, 40, 5, 50, 6, 61), "six, the last one wrong",
            NONE, SpinHall::slowestRate);
        Check.refused(() -> Halls.withPhotographs(50, 180, 50, -179), "two over the greatest gap", NONE,
            SpinHall::slowestRate);
    }

    private static void terms() {
        Sentence.term("A thing that spins by a rate, in degrees each tick, from -1800 to 1800, is seen to have "
            + "turned, over a gap of ticks, by the rate times the gap, less as many whole turns as leave -179 to "
            + "180.");
        for (int rate = -1800; rate <= 1800; rate += 5) {
            for (int gap : new int[] {1, 2, 49, 50}) {
                int seen = new SpinHall().seen(rate, gap);
                Check.due("whole turns taken off seen(" + rate + ", " + gap + ")", (rate * gap - seen) % 360, 0);
                Check.due("-179 to 180 left of seen(" + rate + ", " + gap + ")", seen >= -179 && seen <= 180, true);
            }
        }
        dueSeen(180, 1, 180);
        dueSeen(181, 1, -179);
        dueSeen(-180, 1, 180);
        dueSeen(-179, 1, -179);

        Sentence.term("At most 6 photographs are told, each with a gap and what was seen; a rate suits if all were "
            + "seen so.");
        Check.due("the sixth", Halls.withPhotographs(2, 180, 2, 180, 2, 180, 2, 180, 2, 180).photograph(1, 90), 6);
        Check.refused(Halls::withSixPhotographs, "a seventh", FULL, h -> h.photograph(1, 10));
        Check.due("the first five alone", Halls.withPhotographs(2, 180, 2, 180, 2, 180, 2, 180, 2, 180).rates(), 20);
        Check.due("the sixth too", Halls.withPhotographs(2, 180, 2, 180, 2, 180, 2, 180, 2, 180, 1, 90).rates(), 10);
        Check.due("the sixth alone below 0",
            Halls.withPhotographs(2, 180, 2, 180, 2, 180, 2, 180, 2, 180, 1, -90).slowestRate(), -90);
        Check.due("without photographs each one suits", new SpinHall().rates(), 3601);
    }
}
