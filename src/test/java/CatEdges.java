/** The edges of promises 34 to 36, and of what the Terms say of a cat. */
final class CatEdges {
    private static final Class<?> BEYOND = ArithmeticException.class;
    private static final long LIMIT = 1000000000000L;

    private CatEdges() {
    }

    static void all() {
        fold();
        twist();
        numbersAbove();
        numbersBelow();
        catTurn();
        terms();
    }

    private static void dueTurns(String what, SpinHall hall, long front, long frontBelow, long back, long backBelow) {
        Check.due("front above, " + what, hall.catTurn(true, true), front);
        Check.due("front below, " + what, hall.catTurn(true, false), frontBelow);
        Check.due("back above, " + what, hall.catTurn(false, true), back);
        Check.due("back below, " + what, hall.catTurn(false, false), backBelow);
    }

    private static SpinHall folded(int front, int back) {
        SpinHall hall = new SpinHall();
        hall.fold(true, front);
        hall.fold(false, back);
        return hall;
    }

    private static SpinHall twisted(int front, int back, int degrees) {
        SpinHall hall = folded(front, back);
        hall.twist(degrees);
        return hall;
    }

    private static void fold() {
        Sentence.of(34, "Folds or stretches a part of the cat.");
        Check.due("the back when the front is folded", Halls.full().fold(false, 1), 98);
        Check.due("the front when the back is folded", folded(7, 1).fold(true, 1), 7);
        Sentence.of(34, "`isFront`: whether the front is meant, otherwise the back");
        Check.due("the front", folded(30, 7).fold(true, 10), 30);
        Check.due("the back", folded(30, 7).fold(false, 10), 7);
        Sentence.of(34, "`moment`: 1 to 99");
        for (boolean isFront : new boolean[] {true, false}) {
            Edge.inside("fold", Halls::none, 1, 10, 99, 10, (h, n) -> h.fold(isFront, n));
            Edge.inside("fold behind it", Halls::none, 1, 1, 99, 99, (h, n) -> {
                h.fold(isFront, n);
                return h.fold(isFront, 10);
            });
            Edge.outside("fold", Halls::busy, 1, 99, (h, n) -> h.fold(isFront, n));
        }
        Sentence.of(34, "Returns its moment before.");
        Check.due("the front at first", new SpinHall().fold(true, 10), 10);
        Check.due("the back at first", new SpinHall().fold(false, 10), 10);
        Check.due("the same one", folded(99, 1).fold(true, 99), 99);
        Sentence.of(34, "Throws `IllegalArgumentException` if a number is out of range");
        Edge.outside("fold the front in the full hall", Halls::full, 1, 99, (h, n) -> h.fold(true, n));
        Edge.outside("fold the back in the full hall", Halls::full, 1, 99, (h, n) -> h.fold(false, n));
    }

    private static void twist() {
        Sentence.of(35, "Twists the cat.");
        dueTurns("by half each", twisted(10, 10, 1), 1, 2, -1, 2);
        Sentence.of(35, "`degrees`: -180 to 180");
        Edge.inside("twist", Halls::none, -180, -180, 180, 180, SpinHall::twist);
        Edge.inside("front behind twist", Halls::none, -180, -90L, 180, 90L, (h, n) -> {
            h.twist(n);
            return h.catTurn(true, true);
        });
        Edge.outside("twist", Halls::busy, -180, 180, SpinHall::twist);
        Sentence.of(35, "Returns by how much it is twisted then, in all.");
        SpinHall much = new SpinHall();
        for (int time = 1; time <= 500; time++) {
            Check.due("twist(180), time " + time, much.twist(180), 180 * time);
        }
        dueTurns("by 500 times 90", much, 45000, 1, -45000, 1);
        SpinHall back = new SpinHall();
        Check.due("twist(-180)", back.twist(-180), -180);
        Check.due("twist(-180) again", back.twist(-180), -360);
        Check.due("twist(-1)", back.twist(-1), -361);
        Check.due("twist(180)", back.twist(180), -181);
        Check.due("twist(0)", back.twist(0), -181);
        Sentence.of(35, "Throws `IllegalArgumentException` if a number is out of range");
        Edge.outside("twist in the full hall", Halls::full, -180, 180, SpinHall::twist);
        // in its range, each number but 0 would lead beyond the limit
        Edge.outside("twist, beyond the limit too", CatEdges::nearTheLimitBelow, -180, 180, SpinHall::twist);
        Check.refused(CatEdges::nearTheLimitBelow, "twist(179)", BEYOND, h -> h.twist(179));
        Check.due("twist(0) there", nearTheLimitBelow().twist(0), 0);
    }

    /** Each twist turns one part by the degrees times a share of the sum of both moments. */
    private static SpinHall shared(boolean isFront, int degrees, int[] sums, int[] shares) {
        SpinHall hall = new SpinHall();
        for (int i = 0; i < sums.length; i++) {
            share(hall, isFront, sums[i], shares[i]);
            hall.twist(isFront ? degrees : -degrees);
        }
        return hall;
    }

    private static void share(SpinHall hall, boolean isFront, int sum, int share) {
        hall.fold(isFront, sum - share);
        hall.fold(!isFront, share);
    }

    private static void numbersAbove() {
        Sentence.of(35, "Throws `ArithmeticException` if a number of a fraction would be beyond 1000000000000, "
            + "either way");
        int[] sums = {97, 89, 83, 79, 73, 71};
        int[] shares = {81, 51, 5, 60, 43, 42};
        int[] sumsBeyond = {97, 89, 83, 79, 71};
        int[] sharesBeyond = {90, 85, 22, 62, 29};
        for (int sign : new int[] {1, -1}) {
            for (boolean isFront : new boolean[] {true, false}) {
                SpinHall most = shared(isFront, sign, sums, shares);
                Check.due("a number above at the limit", most.catTurn(isFront, true), sign * LIMIT);
                Check.due("a number above of the other part", most.catTurn(!isFront, true) * sign > -LIMIT, true);
                // the last twist makes 1000000000001 of it
                Check.refused(() -> {
                    SpinHall hall = shared(isFront, sign, sumsBeyond, sharesBeyond);
                    share(hall, isFront, 61, 45);
                    return hall;
                }, "a number above beyond the limit by 1", BEYOND, h -> h.twist(isFront ? sign : -sign));
            }
        }
    }

    /** Both fractions have the number 7 * 19 * 169 * 61 * 73 * 97 * 103 below. */
    private static SpinHall atTheLimitBelow() {
        SpinHall hall = new SpinHall();
        int degrees = 1;
        for (int sum : new int[] {133, 169, 61, 73, 97, 103}) {
            share(hall, true, sum, sum / 2);
            hall.twist(degrees);
            degrees = -degrees;
        }
        return hall;
    }

    /** The next twist would bring both to 5 * 7 * 11 * 29 * 41 * 103 * 127 * 167 below. */
    private static SpinHall beforeBeyondBelow() {
        SpinHall hall = new SpinHall();
        int degrees = 1;
        for (int sum : new int[] {35, 11, 29, 41, 103, 127}) {
            share(hall, true, sum, sum / 2);
            hall.twist(degrees);
            degrees = -degrees;
        }
        share(hall, true, 167, 83);
        return hall;
    }

    /** The number below is as at the limit, and the next twist would make it 8 times as much. */
    private static SpinHall nearTheLimitBelow() {
        SpinHall hall = atTheLimitBelow();
        share(hall, true, 8, 3);
        return hall;
    }

    private static void numbersBelow() {
        SpinHall most = atTheLimitBelow();
        Check.due("a number below near the limit", most.catTurn(true, false), 999999999271L);
        Check.due("a number below near the limit, of the back", most.catTurn(false, false), 999999999271L);
        Check.refused(CatEdges::beforeBeyondBelow, "1000000002155 below", BEYOND, h -> h.twist(1));
        Check.refused(CatEdges::beforeBeyondBelow, "1000000002155 below, the other way", BEYOND, h -> h.twist(-1));
        Check.due("twist(0) there", beforeBeyondBelow().twist(0), 0);
        Check.due("a whole number of degrees there", beforeBeyondBelow().twist(167), 167);
        Check.refused(CatEdges::nearTheLimitBelow, "8 times as much below", BEYOND, h -> h.twist(1));
        Check.refused(CatEdges::nearTheLimitBelow, "2 times as much below", BEYOND, h -> h.twist(4));
        // the first twist back takes its 133 away again
        SpinHall less = atTheLimitBelow();
        share(less, true, 133, 66);
        Check.due("the first twist back", less.twist(-1), -1);
        Check.due("less below", less.catTurn(true, false), 999999999271L / 133);
    }

    private static void catTurn() {
        Sentence.of(36, "Returns by how much a part of the cat is turned, in degrees.");
        dueTurns("at first", new SpinHall(), 0, 1, 0, 1);
        dueTurns("180 by the least share of the front", twisted(99, 1, 180), 9, 5, -891, 5);
        dueTurns("-180 by the least share of the back", twisted(1, 99, -180), -891, 5, 9, 5);
        Sentence.of(36, "`isFront`: whether the front is meant, otherwise the back");
        Check.due("the front", twisted(1, 2, 3).catTurn(true, true), 2L);
        Check.due("the back", twisted(1, 2, 3).catTurn(false, true), -1L);
        Sentence.of(36, "`isTop`: whether the number above is meant, otherwise that below");
        Check.due("above", twisted(1, 2, 1).catTurn(true, true), 2L);
        Check.due("below", twisted(1, 2, 1).catTurn(true, false), 3L);
        Sentence.of(36, "Returns a number of the fraction in lowest terms, that below being above 0.");
        dueTurns("below 0, the front", twisted(1, 2, -1), -2, 3, 1, 3);
        dueTurns("below 0, the back", twisted(1, 2, 1), 2, 3, -1, 3);
        dueTurns("brought to lowest terms", twisted(10, 30, 6), 9, 2, -3, 2);
        dueTurns("brought to whole numbers", twisted(33, 66, 3), 2, 1, -1, 1);
        SpinHall none = twisted(1, 2, 1);
        none.twist(-1);
        dueTurns("brought back to 0", none, 0, 1, 0, 1);
        SpinHall across = twisted(1, 2, 1);
        across.twist(-2);
        dueTurns("across 0", across, -2, 3, 1, 3);
    }

    private static void terms() {
        Sentence.term("Its front and its back have moments, 1 to 99, 10 at first, and are twisted against each "
            + "other by 0 at first.");
        Check.due("the front's moment at first", new SpinHall().fold(true, 1), 10);
        Check.due("the back's moment at first", new SpinHall().fold(false, 1), 10);
        Check.due("the twist at first", new SpinHall().twist(0), 0);
        Check.due("the greatest moment", folded(99, 99).fold(true, 1), 99);
        Check.due("the least moment", folded(1, 1).fold(false, 1), 1);
        Check.refused(Halls::busy, "a front of 0", Edge.WRONG, h -> h.fold(true, 0));
        Check.refused(Halls::busy, "a back of 100", Edge.WRONG, h -> h.fold(false, 100));

        Sentence.term("Twisted by some degrees, the front turns by these times the moment of the back, divided by "
            + "both moments together, and the back the other way, times that of the front; all exactly, as "
            + "fractions in lowest terms.");
        dueTurns("by 1, with 30 and 7", twisted(30, 7, 1), 7, 37, -30, 37);
        dueTurns("by -1, with 30 and 7", twisted(30, 7, -1), -7, 37, 30, 37);
        dueTurns("by 1, with the greatest ones", twisted(99, 98, 1), 98, 197, -99, 197);
        dueTurns("by 1, with like ones", twisted(99, 99, 1), 1, 2, -1, 2);
        SpinHall thirds = twisted(1, 2, 1);
        thirds.fold(true, 2);
        thirds.fold(false, 1);
        thirds.twist(-1);
        dueTurns("to and fro, not twisted at the end", thirds, 1, 3, 1, 3);
        Check.due("twist(0) then", thirds.twist(0), 0);
        SpinHall round = new SpinHall();
        for (int i = 0; i < 5; i++) {
            round.twist(180);
        }
        dueTurns("by more than a whole turn", round, 450, 1, -450, 1);
    }
}
