/** The edges of promises 30 to 33, and of what the Terms say of a cage. */
final class CageEdges {
    private static final Class<?> LOCKED = UnsupportedOperationException.class;

    private CageEdges() {
    }

    static void all() {
        setMomentum();
        turnRing();
        isLocked();
        pushCage();
        terms();
        termOfPushes();
    }

    private static SpinHall withMomentum(int momentum) {
        SpinHall hall = new SpinHall();
        hall.setMomentum(momentum);
        return hall;
    }

    private static SpinHall withRing(int ring, int angle) {
        SpinHall hall = new SpinHall();
        hall.turnRing(ring, angle);
        return hall;
    }

    private static SpinHall lockedAt(int angle) {
        SpinHall hall = Halls.full();
        hall.turnRing(1, 1 + angle);
        return hall;
    }

    private static void setMomentum() {
        Sentence.of(30, "Sets the momentum of the wheel.");
        Check.due("a push by a wheel of 1", withMomentum(1).pushCage(1, 1), 1);
        Check.due("a push by a wheel of 2", withMomentum(2).pushCage(1, 1), 0);
        Sentence.of(30, "`momentum`: 1 to 9999");
        Edge.inside("setMomentum", Halls::none, 1, 1000, 9999, 1000, SpinHall::setMomentum);
        Edge.inside("setMomentum behind it", Halls::none, 1, 1, 9999, 9999, (h, n) -> {
            h.setMomentum(n);
            return h.setMomentum(5);
        });
        Edge.outside("setMomentum", Halls::busy, 1, 9999, SpinHall::setMomentum);
        Sentence.of(30, "Returns the one before.");
        Check.due("at first", new SpinHall().setMomentum(1), 1000);
        Check.due("the same one", withMomentum(9999).setMomentum(9999), 9999);
        Check.due("in the full hall", Halls.full().setMomentum(1), 9999);
        Sentence.of(30, "Throws `IllegalArgumentException` if a number is out of range");
        Edge.outside("setMomentum in the full hall, which keeps what is left", Halls::full, 1, 9999,
            SpinHall::setMomentum);
        Edge.outside("setMomentum when locked", Halls::locked, 1, 9999, SpinHall::setMomentum);
    }

    private static void turnRing() {
        Sentence.of(31, "Turns a ring.");
        SpinHall rings = new SpinHall();
        rings.turnRing(1, 7);
        Check.due("the ring ahead", rings.turnRing(0, 0), 0);
        Check.due("the ring behind", rings.turnRing(2, 0), 0);
        Check.due("the ring itself", rings.turnRing(1, 0), 7);
        Sentence.of(31, "`ring`: 0 to 2");
        Edge.inside("turnRing", Halls::busy, 0, 4, 2, 352, (h, n) -> h.turnRing(n, 5));
        Edge.outside("turnRing", Halls::busy, 0, 2, (h, n) -> h.turnRing(n, 5));
        Sentence.of(31, "`degrees`: -360 to 360");
        Edge.inside("turnRing", Halls::busy, -360, 12, 360, 12, (h, n) -> h.turnRing(1, n));
        Edge.outside("turnRing", Halls::busy, -360, 360, (h, n) -> h.turnRing(1, n));
        Sentence.of(31, "Returns its angle then.");
        Check.due("0 by -1", withRing(0, 0).turnRing(0, -1), 359);
        Check.due("0 by 359", withRing(0, 0).turnRing(0, 359), 359);
        Check.due("0 by 360", withRing(0, 0).turnRing(0, 360), 0);
        Check.due("0 by -360", withRing(0, 0).turnRing(0, -360), 0);
        Check.due("0 by -359", withRing(0, 0).turnRing(0, -359), 1);
        Check.due("359 by 1", withRing(1, 359).turnRing(1, 1), 0);
        Check.due("359 by 360", withRing(2, 359).turnRing(2, 360), 359);
        Check.due("359 by -360", withRing(2, 359).turnRing(2, -360), 359);
        Check.due("1 by -1", withRing(2, 1).turnRing(2, -1), 0);
        Check.due("1 by -2", withRing(2, 1).turnRing(2, -2), 359);
        Sentence.of(31, "Throws `IllegalArgumentException` if a number is out of range");
        Edge.outside("turnRing in the full hall", Halls::full, 0, 2, (h, n) -> h.turnRing(n, 1));
        Edge.outside("turnRing 0", Halls::full, -360, 360, (h, n) -> h.turnRing(0, n));
        Edge.outside("turnRing 2", Halls::full, -360, 360, (h, n) -> h.turnRing(2, n));
    }

    private static void isLocked() {
        Sentence.of(32, "Tells whether the cage is locked.");
        Check.due("at first", new SpinHall().isLocked(), false);
        Check.due("by ring 1", Halls.locked().isLocked(), true);
        Sentence.of(32, "Returns true if so.");
        for (int angle = 0; angle < 360; angle++) {
            Check.due("ring 1 at " + angle, withRing(1, angle).isLocked(), angle == 90 || angle == 270);
            Check.due("ring 0 at " + angle, withRing(0, angle).isLocked(), false);
            Check.due("ring 2 at " + angle, withRing(2, angle).isLocked(), false);
        }
        Check.due("ring 1 back by 90", withRing(1, -90).isLocked(), true);
        Check.due("ring 1 back by 270", withRing(1, -270).isLocked(), true);
    }

    private static void pushCage() {
        Sentence.of(33, "Pushes the cage.");
        SpinHall rings = Halls.busy();
        rings.pushCage(999, 999);
        Check.due("the ring 1 then", rings.turnRing(1, 0), 12);
        Check.due("the ring 2 then", rings.turnRing(2, 0), 347);
        Sentence.of(33, "`push`: -999 to 999");
        Edge.inside("pushCage", () -> withMomentum(1), -999, 81, 999, 279, (h, n) -> h.pushCage(n, 1));
        Edge.outside("pushCage", Halls::busy, -999, 999, (h, n) -> h.pushCage(n, 1));
        Sentence.of(33, "`ticks`: 1 to 999");
        Edge.inside("pushCage", () -> withMomentum(1), 1, 1, 999, 279, (h, n) -> h.pushCage(1, n));
        Edge.outside("pushCage", Halls::busy, 1, 999, (h, n) -> h.pushCage(1, n));
        Sentence.of(33, "Returns the angle of the ring 0 then.");
        Check.due("0 by 359", withMomentum(1).pushCage(359, 1), 359);
        Check.due("0 by 360", withMomentum(1).pushCage(360, 1), 0);
        Check.due("0 by -1", withMomentum(1).pushCage(-1, 1), 359);
        Check.due("0 by -360", withMomentum(1).pushCage(-360, 1), 0);
        Check.due("0 by nothing", withMomentum(1).pushCage(0, 999), 0);
        Check.due("the most", withMomentum(1).pushCage(999, 999), 81);
        Check.due("the least", withMomentum(1).pushCage(-999, 999), 279);
        Check.due("the most by the greatest wheel", withMomentum(9999).pushCage(999, 999), 99);
        SpinHall turned = withMomentum(1);
        turned.turnRing(0, 359);
        Check.due("359 by 1", turned.pushCage(1, 1), 0);

        Sentence.of(33, "Throws `IllegalArgumentException` if a number is out of range");
        Edge.outside("pushCage, locked too", () -> lockedAt(90), -999, 999, (h, n) -> h.pushCage(n, 1));
        Edge.outside("ticks of pushCage, locked too", () -> lockedAt(270), 1, 999, (h, n) -> h.pushCage(1, n));
        Edge.outside("pushCage in the full hall", Halls::full, -999, 999, (h, n) -> h.pushCage(n, 1));
        Edge.outside("ticks of pushCage in the full hall", Halls::full, 1, 999, (h, n) -> h.pushCage(1, n));
        Sentence.of(33, "Throws `UnsupportedOperationException` if it is locked");
        Check.refused(() -> lockedAt(90), "pushCage at 90", LOCKED, h -> h.pushCage(999, 999));
        Check.refused(() -> lockedAt(270), "pushCage at 270", LOCKED, h -> h.pushCage(-999, 999));
        Check.refused(Halls::locked, "pushCage by nothing", LOCKED, h -> h.pushCage(0, 1));
        for (int angle : new int[] {89, 91, 269, 271}) {
            Check.due("pushCage at " + angle, lockedAt(angle).pushCage(0, 1), 99);
        }
    }

    private static void terms() {
        Sentence.term("It has rings 0, 1 and 2, with angles from 0 to 359, 0 at first, and a wheel with a "
            + "momentum, 1 to 9999, 1000 at first.");
        for (int ring = 0; ring < 3; ring++) {
            int number = ring;
            Check.due("ring " + ring + " at first", new SpinHall().turnRing(ring, 0), 0);
            Check.due("ring " + ring + " at the greatest angle", withRing(number, 359).turnRing(number, 0), 359);
            Check.due("ring " + ring + " one on", withRing(number, 359).turnRing(number, 1), 0);
            Check.due("ring " + ring + " back by one", new SpinHall().turnRing(number, -1), 359);
        }
        Check.due("the momentum at first", new SpinHall().setMomentum(9999), 1000);
        Check.due("the greatest momentum", withMomentum(9999).setMomentum(1), 9999);
        Check.due("the least momentum", withMomentum(1).setMomentum(1), 1);
        Check.refused(Halls::busy, "a fourth ring", Edge.WRONG, h -> h.turnRing(3, 0));
        Check.refused(Halls::busy, "a momentum of 0", Edge.WRONG, h -> h.setMomentum(0));
        Check.refused(Halls::busy, "a momentum of 10000", Edge.WRONG, h -> h.setMomentum(10000));

        Sentence.term("It is locked if the ring 1 is at 90 or 270.");
        int[] angles = {89, 90, 91, 269, 270, 271};
        boolean[] locked = {false, true, false, false, true, false};
        for (int i = 0; i < angles.length; i++) {
            Check.due("isLocked at " + angles[i], lockedAt(angles[i]).isLocked(), locked[i]);
            Check.due("isLocked at " + angles[i] + ", from the other side",
                withRing(1, angles[i] - 360).isLocked(), locked[i]);
        }
    }

    /** A hall with a wheel of 1000 that keeps as much. */
    private static SpinHall keeping(int kept) {
        SpinHall hall = new SpinHall();
        hall.pushCage(kept, 1);
        return hall;
    }

    private static void termOfPushes() {
        Sentence.term("A push for some ticks turns the ring 0 by the push times the ticks, divided by the "
            + "momentum, in degrees; what is left over, toward 0, is kept for the next push, and is 0 as soon as a "
            + "momentum is told, also the same one.");
        Check.due("999 of 1000", new SpinHall().pushCage(999, 1), 0);
        Check.due("1000 of 1000", new SpinHall().pushCage(500, 2), 1);
        Check.due("-999 of 1000", new SpinHall().pushCage(-999, 1), 0);
        Check.due("-1000 of 1000", new SpinHall().pushCage(-500, 2), 359);
        Check.due("-1001 of 1000", new SpinHall().pushCage(-91, 11), 359);
        Check.due("999 and 1", keeping(999).pushCage(1, 1), 1);
        Check.due("998 and 1", keeping(998).pushCage(1, 1), 0);
        Check.due("-999 and -1", keeping(-999).pushCage(-1, 1), 359);
        Check.due("-998 and -1", keeping(-998).pushCage(-1, 1), 0);
        Check.due("999 and -1998", keeping(999).pushCage(-999, 2), 0);
        Check.due("999 and -1", keeping(999).pushCage(-1, 1), 0);
        SpinHall down = keeping(999);
        down.pushCage(-999, 2);
        Check.due("999, -1998 and -1", down.pushCage(-1, 1), 359);
        Check.due("1 and -1001", keeping(1).pushCage(-91, 11), 359);
        Check.due("-1 and 1", keeping(-1).pushCage(1, 1), 0);
        SpinHall below = keeping(-999);
        below.pushCage(-999, 1);
        Check.due("-1998, of which -998 is kept, and -2", below.pushCage(-2, 1), 358);
        SpinHall far = withMomentum(9999);
        Check.due("998001 of 9999", far.pushCage(999, 999), 99);
        Check.due("8100 is kept, and 1898", far.pushCage(949, 2), 99);
        Check.due("and 1", far.pushCage(1, 1), 100);

        SpinHall same = keeping(999);
        same.setMomentum(1000);
        Check.due("nothing is kept behind the same momentum", same.pushCage(999, 1), 0);
        Check.due("but from there on", same.pushCage(1, 1), 1);
        SpinHall other = keeping(999);
        other.setMomentum(1);
        Check.due("nothing is kept behind a lesser momentum", other.pushCage(0, 1), 0);
        SpinHall under = keeping(-999);
        under.setMomentum(1000);
        Check.due("nothing below 0 is kept either", under.pushCage(-999, 1), 0);
        SpinHall turned = keeping(999);
        turned.turnRing(0, 360);
        Check.due("a turned ring does not take what is kept", turned.pushCage(1, 1), 1);
    }
}
