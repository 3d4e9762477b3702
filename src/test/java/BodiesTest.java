import java.util.NoSuchElementException;

/** Promises 1 to 9: a new object, bodies and their masses. */
final class BodiesTest {
    private static final Class<?> NO_INDEX = IndexOutOfBoundsException.class;
    private static final Class<?> WRONG = IllegalArgumentException.class;

    public static void main(String[] args) {
        newObject();
        addBody();
        addMass();
        sums();
        momentsAndProducts();
        kinds();
        loadedAxis();
        Check.end();
    }

    private static SpinHall withMasses(int... masses) {
        SpinHall hall = new SpinHall();
        hall.addBody();
        for (int i = 0; i < masses.length; i += 4) {
            hall.addMass(0, masses[i], masses[i + 1], masses[i + 2], masses[i + 3]);
        }
        return hall;
    }

    private static SpinHall uneven() {
        return withMasses(2, 3, -4, 5, 3, -1, 2, 0);
    }

    private static void newObject() {
        Check.refused(SpinHall::new, "massOf(0)", NO_INDEX, h -> h.massOf(0));
        Check.refused(SpinHall::new, "stateOf(0)", NO_INDEX, h -> h.stateOf(0));
        Check.due("events() at first", new SpinHall().events(), 0);
        Check.due("isSound() at first", new SpinHall().isSound(), true);
    }

    private static void addBody() {
        SpinHall hall = new SpinHall();
        for (int body = 0; body < 6; body++) {
            Check.due("addBody()", hall.addBody(), body);
            Check.due("massOf of a new body", hall.massOf(body), 0);
        }
        Check.refused(BodiesTest::withSix, "the seventh addBody()", IllegalStateException.class, SpinHall::addBody);
        Check.due("massOf(5) of six", withSix().massOf(5), 0);
        Check.refused(BodiesTest::withSix, "massOf(6)", NO_INDEX, h -> h.massOf(6));
    }

    private static SpinHall withSix() {
        SpinHall hall = new SpinHall();
        for (int body = 0; body < 6; body++) {
            hall.addBody();
        }
        return hall;
    }

    private static SpinHall withEightMasses() {
        SpinHall hall = withMasses();
        for (int mass = 0; mass < 8; mass++) {
            hall.addMass(0, mass + 1, mass, -mass, 1);
        }
        return hall;
    }

    private static void addMass() {
        SpinHall hall = withMasses();
        for (int mass = 0; mass < 8; mass++) {
            Check.due("addMass, number " + mass, hall.addMass(0, mass + 1, mass, -mass, 1), mass);
        }
        Check.due("massOf of eight", hall.massOf(0), 36);
        hall.addBody();
        Check.due("addMass to the next body", hall.addMass(1, 9, 9, 9, 9), 0);
        Check.due("addMass at the least numbers", hall.addMass(1, 1, -9, -9, -9), 1);
        Check.due("massOf(0) still", hall.massOf(0), 36);
        Check.due("massOf(1)", hall.massOf(1), 10);

        Check.refused(BodiesTest::uneven, "addMass(1, ..)", NO_INDEX, h -> h.addMass(1, 0, 99, 0, 0));
        Check.refused(BodiesTest::uneven, "addMass(-1, ..)", NO_INDEX, h -> h.addMass(-1, 1, 0, 0, 0));
        Check.refused(BodiesTest::uneven, "mass 0", WRONG, h -> h.addMass(0, 0, 0, 0, 0));
        Check.refused(BodiesTest::uneven, "mass 10", WRONG, h -> h.addMass(0, 10, 0, 0, 0));
        Check.refused(BodiesTest::uneven, "x -10", WRONG, h -> h.addMass(0, 1, -10, 0, 0));
        Check.refused(BodiesTest::uneven, "x 10", WRONG, h -> h.addMass(0, 1, 10, 0, 0));
        Check.refused(BodiesTest::uneven, "y -10", WRONG, h -> h.addMass(0, 1, 0, -10, 0));
        Check.refused(BodiesTest::uneven, "y 10", WRONG, h -> h.addMass(0, 1, 0, 10, 0));
        Check.refused(BodiesTest::uneven, "z -10", WRONG, h -> h.addMass(0, 1, 0, 0, -10));
        Check.refused(BodiesTest::uneven, "z 10", WRONG, h -> h.addMass(0, 1, 0, 0, 10));
        Check.refused(BodiesTest::withEightMasses, "the ninth mass", IllegalStateException.class,
            h -> h.addMass(0, 1, 0, 0, 0));
        Check.refused(BodiesTest::withEightMasses, "the ninth mass, wrong too", WRONG,
            h -> h.addMass(0, 0, 0, 0, 0));
    }

    private static void sums() {
        SpinHall hall = uneven();
        Check.due("massOf(0)", hall.massOf(0), 5);
        Check.due("sumOf x", hall.sumOf(0, 'x'), 3);
        Check.due("sumOf y", hall.sumOf(0, 'y'), -2);
        Check.due("sumOf z", hall.sumOf(0, 'z'), 10);
        Check.due("sumOf of no masses", withMasses().sumOf(0, 'x'), 0);
        Check.refused(BodiesTest::uneven, "massOf(1)", NO_INDEX, h -> h.massOf(1));
        Check.refused(BodiesTest::uneven, "massOf(-1)", NO_INDEX, h -> h.massOf(-1));
        Check.refused(BodiesTest::uneven, "massOf(least)", NO_INDEX, h -> h.massOf(Integer.MIN_VALUE));
        Check.refused(BodiesTest::uneven, "massOf(most)", NO_INDEX, h -> h.massOf(Integer.MAX_VALUE));
        Check.refused(BodiesTest::uneven, "sumOf(1, 'w')", NO_INDEX, h -> h.sumOf(1, 'w'));
        for (char axis : new char[] {'w', '{', 'X', 0, 65535}) {
            Check.refused(BodiesTest::uneven, "sumOf axis " + (int) axis, WRONG, h -> h.sumOf(0, axis));
            Check.refused(BodiesTest::uneven, "momentOf axis " + (int) axis, WRONG, h -> h.momentOf(0, axis));
            Check.refused(BodiesTest::uneven, "productOf axis " + (int) axis, WRONG, h -> h.productOf(0, axis));
        }
    }

    private static void momentsAndProducts() {
        // the two masses are 4, -6 and 5 apart, and 2 times 3 of each square counts
        SpinHall hall = uneven();
        Check.due("momentOf x", hall.momentOf(0, 'x'), 6 * (36 + 25));
        Check.due("momentOf y", hall.momentOf(0, 'y'), 6 * (16 + 25));
        Check.due("momentOf z", hall.momentOf(0, 'z'), 6 * (16 + 36));
        Check.due("productOf x", hall.productOf(0, 'x'), 6 * 6 * 5);
        Check.due("productOf y", hall.productOf(0, 'y'), -6 * 4 * 5);
        Check.due("productOf z", hall.productOf(0, 'z'), 6 * 4 * 6);
        hall.turn(0, 1, 2, 3, 4);
        Check.due("momentOf x behind a turn", hall.momentOf(0, 'x'), 6 * (36 + 25));
        Check.due("momentOf of no masses", withMasses().momentOf(0, 'y'), 0);
        Check.due("productOf of no masses", withMasses().productOf(0, 'y'), 0);
        Check.refused(BodiesTest::uneven, "momentOf(1, 'w')", NO_INDEX, h -> h.momentOf(1, 'w'));
        Check.refused(BodiesTest::uneven, "productOf(1, 'w')", NO_INDEX, h -> h.productOf(1, 'w'));

        SpinHall greatest = withMasses();
        for (int mass = 0; mass < 8; mass++) {
            int side = mass % 2 == 0 ? 9 : -9;
            greatest.addMass(0, 9, side, side, side);
        }
        Check.due("the greatest momentOf", greatest.momentOf(0, 'x'), 839808);
        Check.due("the least productOf", greatest.productOf(0, 'x'), -419904);
    }

    private static void kinds() {
        Check.due("a point", withMasses(5, 3, 3, 3).kindOf(0), 'r');
        Check.due("a rod along y", withMasses(1, 0, 4, 0, 2, 0, -1, 0).kindOf(0), 'r');
        Check.due("a rod along x", withMasses(1, 4, 1, 1, 2, 3, 1, 1).kindOf(0), 'r');
        Check.due("a rod along z", withMasses(1, 2, 0, 4, 2, 2, 0, -1).kindOf(0), 'r');
        Check.due("alike", withMasses(1, 1, 0, 0, 1, -1, 0, 0, 1, 0, 1, 0, 1, 0, -1, 0, 1, 0, 0, 1, 1, 0, 0, -1)
            .kindOf(0), 's');
        Check.due("long along x", cross(3, 1, 1).kindOf(0), 'p');
        Check.due("long along y", cross(1, 3, 1).kindOf(0), 'p');
        Check.due("long along z", cross(1, 1, 3).kindOf(0), 'p');
        Check.due("flat across x", cross(1, 3, 3).kindOf(0), 'o');
        Check.due("flat across y", cross(3, 1, 3).kindOf(0), 'o');
        Check.due("flat across z", cross(3, 3, 1).kindOf(0), 'o');
        Check.due("unlike", cross(1, 2, 3).kindOf(0), 'a');
        Check.refused(BodiesTest::withMasses, "kindOf(1)", NO_INDEX, h -> h.kindOf(1));
        Check.refused(BodiesTest::withMasses, "kindOf of no masses", NoSuchElementException.class, h -> h.kindOf(0));
        Class<?> unsupported = UnsupportedOperationException.class;
        Check.refused(() -> withMasses(1, 1, 1, 0, 1, 0, 0, 0), "only the product z", unsupported, h -> h.kindOf(0));
        Check.refused(() -> withMasses(1, 1, 0, 1, 1, 0, 0, 0), "only the product y", unsupported, h -> h.kindOf(0));
        Check.refused(() -> withMasses(1, 0, 1, 1, 1, 0, 0, 0), "only the product x", unsupported, h -> h.kindOf(0));
    }

    private static SpinHall cross(int x, int y, int z) {
        return withMasses(1, x, 0, 0, 1, -x, 0, 0, 1, 0, y, 0, 1, 0, -y, 0, 1, 0, 0, z, 1, 0, 0, -z);
    }

    private static void loadedAxis() {
        Check.due("towards x", withMasses(1, 3, -2, 1).loadedAxis(0), 'x');
        Check.due("towards Y", withMasses(1, 1, -3, 2).loadedAxis(0), 'Y');
        Check.due("towards z", withMasses(1, 1, -3, 4).loadedAxis(0), 'z');
        Check.due("towards X", withMasses(1, -4, 1, 3).loadedAxis(0), 'X');
        Check.due("towards y", withMasses(1, -4, 5, 3).loadedAxis(0), 'y');
        Check.due("towards Z", withMasses(1, 0, 0, -1).loadedAxis(0), 'Z');
        Check.due("x ahead of y and z", withMasses(1, -2, 2, 2).loadedAxis(0), 'X');
        Check.due("y ahead of z", withMasses(1, 1, 2, -2).loadedAxis(0), 'y');
        Check.due("masses count", withMasses(9, 0, 1, 0, 1, 8, 0, 0).loadedAxis(0), 'y');
        Check.due("all are 0", withMasses(1, 1, 0, 0, 1, -1, 0, 0).loadedAxis(0), '-');
        Check.due("no masses", withMasses().loadedAxis(0), '-');
        Check.refused(BodiesTest::uneven, "loadedAxis(1)", NO_INDEX, h -> h.loadedAxis(1));
    }
}
