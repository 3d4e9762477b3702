/** Promises 30 to 33: a cage. */
final class CageTest {
    private static final Class<?> WRONG = IllegalArgumentException.class;

    public static void main(String[] args) {
        setMomentum();
        turnRing();
        isLocked();
        pushCage();
        kept();
        Check.end();
    }

    private static SpinHall pushed() {
        SpinHall hall = new SpinHall();
        hall.pushCage(333, 7);
        return hall;
    }

    private static SpinHall locked() {
        SpinHall hall = pushed();
        hall.turnRing(1, 90);
        return hall;
    }

    private static void setMomentum() {
        SpinHall hall = new SpinHall();
        Check.due("setMomentum at first", hall.setMomentum(9999), 1000);
        Check.due("setMomentum(1)", hall.setMomentum(1), 9999);
        Check.due("setMomentum(7)", hall.setMomentum(7), 1);
        Check.refused(CageTest::pushed, "setMomentum(0)", WRONG, h -> h.setMomentum(0));
        Check.refused(CageTest::pushed, "setMomentum(10000)", WRONG, h -> h.setMomentum(10000));
        Check.refused(CageTest::pushed, "setMomentum(-1)", WRONG, h -> h.setMomentum(-1));
    }

    private static void turnRing() {
        SpinHall hall = new SpinHall();
        Check.due("turnRing(0, 100)", hall.turnRing(0, 100), 100);
        Check.due("turnRing(0, 260)", hall.turnRing(0, 260), 0);
        Check.due("turnRing(1, -1)", hall.turnRing(1, -1), 359);
        Check.due("turnRing(1, 360)", hall.turnRing(1, 360), 359);
        Check.due("turnRing(2, -360)", hall.turnRing(2, -360), 0);
        Check.due("turnRing(2, 5)", hall.turnRing(2, 5), 5);
        Check.due("ring 0 still", hall.turnRing(0, 0), 0);
        Check.refused(CageTest::pushed, "ring -1", WRONG, h -> h.turnRing(-1, 0));
        Check.refused(CageTest::pushed, "ring 3", WRONG, h -> h.turnRing(3, 0));
        Check.refused(CageTest::pushed, "degrees 361", WRONG, h -> h.turnRing(0, 361));
        Check.refused(CageTest::pushed, "degrees -361", WRONG, h -> h.turnRing(0, -361));
    }

    private static void isLocked() {
        SpinHall hall = new SpinHall();
        Check.due("isLocked at first", hall.isLocked(), false);
        hall.turnRing(0, 90);
        hall.turnRing(2, 270);
        Check.due("isLocked by the other rings", hall.isLocked(), false);
        hall.turnRing(1, 90);
        Check.due("isLocked at 90", hall.isLocked(), true);
        hall.turnRing(1, 90);
        Check.due("isLocked at 180", hall.isLocked(), false);
        hall.turnRing(1, 90);
        Check.due("isLocked at 270", hall.isLocked(), true);
        hall.turnRing(1, 1);
        Check.due("isLocked at 271", hall.isLocked(), false);
    }

    private static void pushCage() {
        SpinHall hall = new SpinHall();
        Check.due("pushCage(7, 150)", hall.pushCage(7, 150), 1);
        Check.due("pushCage(-7, 150)", hall.pushCage(-7, 150), 0);
        Check.due("pushCage(-2, 999)", hall.pushCage(-2, 999), 359);
        Check.due("pushCage(0, 1)", hall.pushCage(0, 1), 359);
        Check.due("pushCage(999, 999)", new SpinHall().pushCage(999, 999), 998 - 720);
        SpinHall light = new SpinHall();
        light.setMomentum(1);
        Check.due("pushCage(999, 999) of a light wheel", light.pushCage(999, 999), 81);
        Check.due("pushCage(-999, 999) of a light wheel", light.pushCage(-999, 999), 0);
        SpinHall turned = new SpinHall();
        turned.turnRing(0, 350);
        Check.due("pushCage from 350", turned.pushCage(150, 100), 5);
        Check.refused(CageTest::locked, "push 1000, locked", WRONG, h -> h.pushCage(1000, 1));
        Check.refused(CageTest::pushed, "push -1000", WRONG, h -> h.pushCage(-1000, 1));
        Check.refused(CageTest::pushed, "ticks 0", WRONG, h -> h.pushCage(1, 0));
        Check.refused(CageTest::pushed, "ticks 1000", WRONG, h -> h.pushCage(1, 1000));
        Check.refused(CageTest::locked, "locked", UnsupportedOperationException.class, h -> h.pushCage(1, 1));
    }

    private static void kept() {
        SpinHall hall = new SpinHall();
        Check.due("999 of 1000", hall.pushCage(999, 1), 0);
        Check.due("1000 of 1000", hall.pushCage(1, 1), 1);
        Check.due("-999 of 1000", hall.pushCage(-999, 1), 1);
        Check.due("-1000 of 1000", hall.pushCage(-1, 1), 0);
        hall.pushCage(999, 1);
        Check.due("-1 of what is kept", hall.pushCage(-999, 2), 0);
        Check.due("-1000 again", hall.pushCage(-1, 1), 359);

        SpinHall told = new SpinHall();
        told.pushCage(999, 1);
        told.setMomentum(1000);
        Check.due("nothing is kept behind the same momentum", told.pushCage(1, 1), 0);
        Check.due("998 more", told.pushCage(998, 1), 0);
        Check.due("1 more", told.pushCage(1, 1), 1);

        SpinHall refused = new SpinHall();
        refused.pushCage(999, 1);
        try {
            refused.setMomentum(0);
        } catch (IllegalArgumentException thrown) {
            Check.due("what is kept behind a wrong momentum", refused.pushCage(1, 1), 1);
        }
        SpinHall locked = new SpinHall();
        locked.pushCage(999, 1);
        locked.turnRing(1, 90);
        try {
            locked.pushCage(500, 1);
        } catch (UnsupportedOperationException thrown) {
            locked.turnRing(1, 1);
            Check.due("what is kept behind a lock", locked.pushCage(1, 1), 1);
        }
    }
}
