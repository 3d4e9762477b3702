import java.util.NoSuchElementException;

/** Promises 10 to 14: free spins. */
final class SpinsTest {
    private static final Class<?> NO_INDEX = IndexOutOfBoundsException.class;
    private static final Class<?> WRONG = IllegalArgumentException.class;
    private static final Class<?> UNSUPPORTED = UnsupportedOperationException.class;

    public static void main(String[] args) {
        energyAndMomentum();
        wrongSpins();
        firmness();
        goesRound();
        Check.end();
    }

    /** Six masses of 1, two at like places to both sides on each axis. */
    private static SpinHall cross(int x, int y, int z) {
        SpinHall hall = new SpinHall();
        hall.addBody();
        hall.addMass(0, 1, x, 0, 0);
        hall.addMass(0, 1, -x, 0, 0);
        hall.addMass(0, 1, 0, y, 0);
        hall.addMass(0, 1, 0, -y, 0);
        hall.addMass(0, 1, 0, 0, z);
        hall.addMass(0, 1, 0, 0, -z);
        return hall;
    }

    private static SpinHall skew() {
        SpinHall hall = new SpinHall();
        hall.addBody();
        hall.addMass(0, 1, 1, 1, 0);
        hall.addMass(0, 1, 0, 0, 3);
        return hall;
    }

    private static SpinHall skewAndUnlike() {
        SpinHall hall = new SpinHall();
        hall.addBody();
        hall.addMass(0, 1, 1, 2, 0);
        hall.addMass(0, 1, 0, 0, 3);
        hall.setSpin(0, 1, 2, 3);
        return hall;
    }

    /** Moments 156, 120 and 60. */
    private static SpinHall unlike() {
        return cross(1, 2, 3);
    }

    private static SpinHall empty() {
        SpinHall hall = new SpinHall();
        hall.addBody();
        return hall;
    }

    private static void energyAndMomentum() {
        SpinHall hall = unlike();
        Check.due("energyOf at first", hall.energyOf(0), 0L);
        Check.due("momentumOf at first", hall.momentumOf(0), 0L);
        Check.due("setSpin", hall.setSpin(0, 1, -2, 3), 156L + 4 * 120 + 9 * 60);
        Check.due("energyOf", hall.energyOf(0), 156L + 4 * 120 + 9 * 60);
        Check.due("momentumOf", hall.momentumOf(0), 156L * 156 + 4 * 120 * 120 + 9 * 60 * 60);
        hall.addMass(0, 1, 0, 0, 0);
        Check.due("energyOf with a mass more", hall.energyOf(0), 7 * (156L + 4 * 120 + 9 * 60) / 6);
        Check.due("setSpin(0, -20, -20, -20)", hall.setSpin(0, -20, -20, -20), 400 * 7 * (156L + 120 + 60) / 6);
        Check.due("setSpin(0, 20, 20, 20)", hall.setSpin(0, 20, 20, 20), 400 * 7 * (156L + 120 + 60) / 6);
        Check.due("setSpin(0, 0, 0, 0)", hall.setSpin(0, 0, 0, 0), 0L);

        SpinHall greatest = empty();
        for (int mass = 0; mass < 8; mass++) {
            int side = mass % 2 == 0 ? 9 : -9;
            greatest.addMass(0, 9, side, side, side);
        }
        Check.due("the greatest setSpin", greatest.setSpin(0, 20, -20, 20), 1200L * 839808);
        Check.due("the greatest momentumOf", greatest.momentumOf(0), 1200L * 839808 * 839808);
        Check.refused(SpinsTest::skew, "energyOf(1)", NO_INDEX, h -> h.energyOf(1));
        Check.refused(SpinsTest::skew, "energyOf(-1)", NO_INDEX, h -> h.energyOf(-1));
        Check.refused(SpinsTest::skew, "momentumOf(1)", NO_INDEX, h -> h.momentumOf(1));
    }

    private static SpinHall spinning() {
        SpinHall hall = unlike();
        hall.setSpin(0, 1, -2, 3);
        return hall;
    }

    private static void wrongSpins() {
        Check.refused(SpinsTest::spinning, "setSpin(1, 21, ..)", NO_INDEX, h -> h.setSpin(1, 21, 0, 0));
        Check.refused(SpinsTest::spinning, "p 21", WRONG, h -> h.setSpin(0, 21, 0, 0));
        Check.refused(SpinsTest::spinning, "p -21", WRONG, h -> h.setSpin(0, -21, 0, 0));
        Check.refused(SpinsTest::spinning, "q 21", WRONG, h -> h.setSpin(0, 0, 21, 0));
        Check.refused(SpinsTest::spinning, "q -21", WRONG, h -> h.setSpin(0, 0, -21, 0));
        Check.refused(SpinsTest::spinning, "r 21", WRONG, h -> h.setSpin(0, 0, 0, 21));
        Check.refused(SpinsTest::spinning, "r -21", WRONG, h -> h.setSpin(0, 0, 0, -21));
    }

    private static void dueFirmness(String what, SpinHall hall, String want) {
        String got = "" + hall.firmness(0, 'x') + hall.firmness(0, 'y') + hall.firmness(0, 'z');
        Check.due("firmness of one that is " + what, got, want);
    }

    private static void firmness() {
        Check.due("the greatest moment", unlike().firmness(0, 'x'), 'f');
        Check.due("the middle moment", unlike().firmness(0, 'y'), 'l');
        Check.due("the least moment", unlike().firmness(0, 'z'), 'f');
        Check.due("the middle moment, other way round", cross(3, 2, 1).firmness(0, 'y'), 'l');
        Check.due("the middle moment on x", cross(2, 1, 3).firmness(0, 'x'), 'l');
        Check.due("the middle moment on z", cross(1, 3, 2).firmness(0, 'z'), 'l');
        dueFirmness("long along x", cross(3, 1, 1), "f--");
        dueFirmness("long along y", cross(1, 3, 1), "-f-");
        dueFirmness("long along z", cross(1, 1, 3), "--f");
        dueFirmness("flat across x", cross(1, 3, 3), "f--");
        dueFirmness("flat across y", cross(3, 1, 3), "-f-");
        dueFirmness("flat across z", cross(3, 3, 1), "--f");
        Check.due("all alike", cross(2, 2, 2).firmness(0, 'x'), '-');
        Check.due("no masses", empty().firmness(0, 'x'), '-');
        Check.refused(SpinsTest::skew, "firmness(1, 'w')", NO_INDEX, h -> h.firmness(1, 'w'));
        Check.refused(SpinsTest::skew, "firmness(0, 'w')", WRONG, h -> h.firmness(0, 'w'));
        Check.refused(SpinsTest::skew, "firmness of a skew body", UNSUPPORTED, h -> h.firmness(0, 'x'));
    }

    private static SpinHall spun(SpinHall hall, int p, int q, int r) {
        hall.setSpin(0, p, q, r);
        return hall;
    }

    private static void goesRound() {
        Check.due("round the greatest", spun(unlike(), 1, 0, 0).goesRound(0), 'x');
        Check.due("round the least", spun(unlike(), 0, 0, 1).goesRound(0), 'z');
        Check.due("round none", spun(unlike(), 0, 7, 0).goesRound(0), '-');
        Check.due("the middle one does not count", spun(unlike(), 1, 20, 1).goesRound(0), 'x');
        Check.due("a bit more round the least", spun(unlike(), 1, 0, 2).goesRound(0), 'z');
        Check.due("greatest on z", spun(cross(3, 2, 1), 1, 0, 1).goesRound(0), 'z');
        Check.due("least on x", spun(cross(3, 2, 1), 2, 0, 1).goesRound(0), 'x');
        Check.due("greatest on y", spun(cross(2, 1, 3), 0, 1, 0).goesRound(0), 'y');
        Check.due("least on y", spun(cross(1, 3, 2), 0, 1, 0).goesRound(0), 'y');
        Check.refused(SpinsTest::skew, "goesRound(1)", NO_INDEX, h -> h.goesRound(1));
        Check.refused(SpinsTest::skew, "goesRound of a skew body", UNSUPPORTED, h -> h.goesRound(0));
        Check.refused(SpinsTest::skewAndUnlike, "goesRound of a skew body with unlike moments", UNSUPPORTED,
            h -> h.goesRound(0));
        Check.refused(SpinsTest::empty, "goesRound of no masses", UNSUPPORTED, h -> h.goesRound(0));
        Check.refused(() -> cross(3, 1, 1), "goesRound of a long body", UNSUPPORTED, h -> h.goesRound(0));
        Check.refused(() -> cross(3, 3, 1), "goesRound of a flat body", UNSUPPORTED, h -> h.goesRound(0));
        Check.refused(() -> cross(3, 0, 0), "goesRound of a rod", UNSUPPORTED, h -> h.goesRound(0));
        Check.refused(SpinsTest::unlike, "goesRound without a spin", NoSuchElementException.class,
            h -> h.goesRound(0));
    }
}
