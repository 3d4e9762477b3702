/** Promises 34 to 36: a cat. */
final class CatTest {
    private static final Class<?> WRONG = IllegalArgumentException.class;

    public static void main(String[] args) {
        fold();
        twist();
        Check.end();
    }

    private static SpinHall twisted() {
        SpinHall hall = new SpinHall();
        hall.fold(true, 30);
        hall.twist(91);
        return hall;
    }

    private static void dueTurns(String what, SpinHall hall, long front, long frontBelow, long back, long backBelow) {
        Check.due("front above " + what, hall.catTurn(true, true), front);
        Check.due("front below " + what, hall.catTurn(true, false), frontBelow);
        Check.due("back above " + what, hall.catTurn(false, true), back);
        Check.due("back below " + what, hall.catTurn(false, false), backBelow);
    }

    private static void fold() {
        SpinHall hall = new SpinHall();
        Check.due("fold the front at first", hall.fold(true, 1), 10);
        Check.due("fold the back at first", hall.fold(false, 99), 10);
        Check.due("fold the front again", hall.fold(true, 5), 1);
        Check.due("fold the back again", hall.fold(false, 5), 99);
        dueTurns("behind folds", hall, 0, 1, 0, 1);
        Check.refused(CatTest::twisted, "moment 0 of the front", WRONG, h -> h.fold(true, 0));
        Check.refused(CatTest::twisted, "moment 100 of the front", WRONG, h -> h.fold(true, 100));
        Check.refused(CatTest::twisted, "moment 0 of the back", WRONG, h -> h.fold(false, 0));
        Check.refused(CatTest::twisted, "moment 100 of the back", WRONG, h -> h.fold(false, 100));
    }

    private static void twist() {
        SpinHall hall = new SpinHall();
        Check.due("twist(-180)", hall.twist(-180), -180);
        dueTurns("by half each", hall, -90, 1, 90, 1);
        Check.due("twist(180)", hall.twist(180), 0);
        dueTurns("back again", hall, 0, 1, 0, 1);
        Check.due("twist(0)", hall.twist(0), 0);
        dueTurns("unlike", twisted(), 91, 4, -273, 4);
        SpinHall more = twisted();
        more.fold(false, 50);
        Check.due("twist(-91)", more.twist(-91), 0);
        dueTurns("turned without a twist", more, -273, 8, -273, 8);
        for (int i = 0; i < 3; i++) {
            more.twist(180);
        }
        Check.due("twist in all", more.twist(180), 720);
        Check.refused(CatTest::twisted, "twist(181)", WRONG, h -> h.twist(181));
        Check.refused(CatTest::twisted, "twist(-181)", WRONG, h -> h.twist(-181));
    }
}
