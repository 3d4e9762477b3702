/** Promises 34 to 36: a cat. */
final class CatTest {
    private static final Class<?> WRONG = IllegalArgumentException.class;

    public static void main(String[] args) {
        fold();
        twist();
        limit();
        Check.end();
    }

    private static SpinHall twisted() {
        SpinHall hall = new SpinHall();
        hall.fold(true, 30);
        hall.twist(91);
        return hall;
    }

    private static void dueTurns(String what, SpinHall hall, long front, long frontBelow, long back, long backBelow) {
        Check.due("front above " + what, hall.catTurn(true, true), front);
        Check.due("front below " + what, hall.catTurn(true, false), frontBelow);
        Check.due("back above " + what, hall.catTurn(false, true), back);
        Check.due("back below " + what, hall.catTurn(false, false), backBelow);
    }

    private static void fold() {
        SpinHall hall = new SpinHall();
        Check.due("fold the front at first", hall.fold(true, 1), 10);
        Check.due("fold the back at first", hall.fold(false, 99), 10);
        Check.due("fold the front again", hall.fold(true, 5), 1);
        Check.due("fold the back again", hall.fold(false, 5), 99);
        dueTurns("behind folds", hall, 0, 1, 0, 1);
        Check.refused(CatTest::twisted, "moment 0 of the front", WRONG, h -> h.fold(true, 0));
        Check.refused(CatTest::twisted, "moment 100 of the front", WRONG, h -> h.fold(true, 100));
        Check.refused(CatTest::twisted, "moment 0 of the back", WRONG, h -> h.fold(false, 0));
        Check.refused(CatTest::twisted, "moment 100 of the back", WRONG, h -> h.fold(false, 100));
    }

    private static void twist() {
        SpinHall hall = new SpinHall();
        Check.due("twist(-180)", hall.twist(-180), -180);
        dueTurns("by half each", hall, -90, 1, 90, 1);
        Check.due("twist(180)", hall.twist(180), 0);
        dueTurns("back again", hall, 0, 1, 0, 1);
        Check.due("twist(0)", hall.twist(0), 0);
        dueTurns("unlike", twisted(), 91, 4, -273, 4);
        SpinHall more = twisted();
        more.fold(false, 50);
        Check.due("twist(-91)", more.twist(-91), 0);
        dueTurns("turned without a twist", more, -273, 8, -273, 8);
        for (int i = 0; i < 3; i++) {
            more.twist(180);
        }
        Check.due("twist in all", more.twist(180), 720);
        Check.refused(CatTest::twisted, "twist(181)", WRONG, h -> h.twist(181));
        Check.refused(CatTest::twisted, "twist(-181)", WRONG, h -> h.twist(-181));
    }

    /** One part is turned by shares, each of which the degrees and both moments together make. */
    private static SpinHall shared(boolean isFront, int degrees, int[] sums, int[] shares, int count) {
        SpinHall hall = new SpinHall();
        for (int i = 0; i < count; i++) {
            share(hall, isFront, degrees, sums[i], shares[i]);
        }
        return hall;
    }

    private static void share(SpinHall hall, boolean isFront, int degrees, int sum, int share) {
        hall.fold(isFront, sum - share);
        hall.fold(!isFront, share);
        hall.twist(isFront ? degrees : -degrees);
    }

    private static void limit() {
        int[] sums = {97, 89, 83, 79, 73, 71};
        int[] shares = {81, 51, 5, 60, 43, 42};
        int[] sumsBeyond = {97, 89, 83, 79, 71, 61};
        int[] sharesBeyond = {90, 85, 22, 62, 29, 45};
        for (int degrees = -1; degrees <= 1; degrees += 2) {
            for (boolean isFront : new boolean[] {true, false}) {
                int sign = degrees;
                SpinHall most = shared(isFront, sign, sums, shares, 6);
                Check.due("the greatest number above", most.catTurn(isFront, true), sign * 1000000000000L);
                Check.due("the number below it", most.catTurn(isFront, false), 97L * 89 * 83 * 79 * 73 * 71);
                Check.refused(() -> folded(isFront, sign, sumsBeyond, sharesBeyond), "one more above",
                    ArithmeticException.class, h -> h.twist(isFront ? sign : -sign));
            }
        }
        SpinHall fine = fine();
        share(fine, true, 1, 3, 1);
        Check.due("a great number below", fine.catTurn(true, false), 3L * 97 * 89 * 83 * 79 * 73 * 71);
        Check.refused(CatTest::refolded, "a number below beyond the limit", ArithmeticException.class,
            h -> h.twist(1));
        Check.due("twist by a whole number there", refolded().twist(5), 5);
        Check.due("twist by nothing there", refolded().twist(0), 0);
    }

    /** All but the last twist, for which the parts are folded already. */
    private static SpinHall folded(boolean isFront, int degrees, int[] sums, int[] shares) {
        SpinHall hall = shared(isFront, degrees, sums, shares, sums.length - 1);
        int last = sums.length - 1;
        hall.fold(isFront, sums[last] - shares[last]);
        hall.fold(!isFront, shares[last]);
        return hall;
    }

    /** Both parts are turned by little, with a great number below. */
    private static SpinHall fine() {
        SpinHall hall = new SpinHall();
        int degrees = 1;
        for (int sum : new int[] {97, 89, 83, 79, 73, 71}) {
            share(hall, true, degrees, sum, 1);
            degrees = -degrees;
        }
        return hall;
    }

    private static SpinHall refolded() {
        SpinHall hall = fine();
        hall.fold(true, 3);
        hall.fold(false, 2);
        return hall;
    }
}
