/** Halls that the tests begin with. */
final class Halls {
    private Halls() {
    }

    static SpinHall none() {
        return new SpinHall();
    }

    /** One body; each four numbers are a mass and its place. */
    static SpinHall withBody(int... masses) {
        SpinHall hall = new SpinHall();
        hall.addBody();
        addMasses(hall, 0, masses);
        return hall;
    }

    static void addMasses(SpinHall hall, int body, int... masses) {
        for (int i = 0; i < masses.length; i += 4) {
            hall.addMass(body, masses[i], masses[i + 1], masses[i + 2], masses[i + 3]);
        }
    }

    /** Six masses of 1, two at like places to both sides on each axis. */
    static int[] cross(int x, int y, int z) {
        return new int[] {1, x, 0, 0, 1, -x, 0, 0, 1, 0, y, 0, 1, 0, -y, 0, 1, 0, 0, z, 1, 0, 0, -z};
    }

    static SpinHall withSixBodies() {
        SpinHall hall = new SpinHall();
        for (int body = 0; body < 6; body++) {
            hall.addBody();
        }
        return hall;
    }

    static SpinHall withEightMasses() {
        SpinHall hall = withBody();
        for (int mass = 0; mass < 8; mass++) {
            hall.addMass(0, mass + 1, mass, -mass, 1);
        }
        return hall;
    }

    /** Eight masses of 9 at both far corners on one line. */
    static SpinHall withFarCorners(int x, int y, int z) {
        SpinHall hall = withBody();
        for (int mass = 0; mass < 8; mass++) {
            int side = mass % 2 == 0 ? 1 : -1;
            hall.addMass(0, 9, side * x, side * y, side * z);
        }
        return hall;
    }

    static SpinHall turned(int... numbers) {
        SpinHall hall = withBody(1, 3, -4, 5);
        for (int i = 0; i < numbers.length; i += 4) {
            hall.turn(0, numbers[i], numbers[i + 1], numbers[i + 2], numbers[i + 3]);
        }
        return hall;
    }

    /** Each five numbers are a top. */
    static SpinHall withTops(int... numbers) {
        SpinHall hall = new SpinHall();
        for (int i = 0; i < numbers.length; i += 5) {
            hall.addTop(numbers[i], numbers[i + 1], numbers[i + 2], numbers[i + 3], numbers[i + 4]);
        }
        return hall;
    }

    /** A top that sleeps from 200 and nods from 100. */
    static SpinHall withTop(int spin, int loss) {
        return withTops(spin, loss, 1, 1, 10000);
    }

    static SpinHall withEightTops() {
        SpinHall hall = new SpinHall();
        for (int top = 0; top < 8; top++) {
            hall.addTop(300 + top, 10, 1, 1, 10000);
        }
        return hall;
    }

    /** Each two numbers are a photograph. */
    static SpinHall withPhotographs(int... photographs) {
        SpinHall hall = new SpinHall();
        for (int i = 0; i < photographs.length; i += 2) {
            hall.photograph(photographs[i], photographs[i + 1]);
        }
        return hall;
    }

    static SpinHall withSixPhotographs() {
        return withPhotographs(1, 10, 2, 20, 3, 30, 4, 40, 5, 50, 6, 60);
    }

    /** A bit of all: three bodies, the last one without masses, and three tops, the last one of which lies. */
    static SpinHall busy() {
        SpinHall hall = withBody(2, 3, -4, 5, 3, -1, 2, 0);
        hall.setSpin(0, 1, -2, 3);
        hall.turn(0, 1, 2, 3, 4);
        hall.addBody();
        addMasses(hall, 1, cross(1, 2, 4));
        hall.setSpin(1, 2, 5, 1);
        hall.turn(1, 0, 1, 2, 3);
        hall.addBody();
        hall.setSpin(2, 4, 5, 6);
        hall.turn(2, 5, 0, 0, -1);
        hall.addTop(300, 10, 1, 1, 10000);
        hall.addTop(209, 10, 1, 1, 10000);
        hall.addTop(99, 10, 1, 1, 10000);
        hall.run(1);
        hall.setMomentum(500);
        hall.pushCage(-7, 101);
        hall.turnRing(1, 12);
        hall.turnRing(2, -13);
        hall.fold(true, 30);
        hall.fold(false, 7);
        hall.twist(91);
        hall.command('x', 999, 7);
        hall.command('y', -500, 3);
        hall.photograph(7, 70);
        hall.photograph(2, 20);
        return hall;
    }

    /**
     * As much as goes in: of bodies, masses, tops, photographs, speed and momentum. The last top lies, the one ahead
     * of it nods.
     */
    static SpinHall full() {
        SpinHall hall = withSixBodies();
        for (int body = 0; body < 6; body++) {
            for (int mass = 0; mass < 8; mass++) {
                hall.addMass(body, mass == 7 ? 9 - body : 9, mass % 2 == 0 ? 9 : -9, mass - 4, body);
            }
            hall.setSpin(body, 20, -20, body);
            hall.turn(body, 9, -8, body, 1);
        }
        int[] spins = {9999, 8999, 7999, 6999, 5999, 4999, 1200, 99};
        for (int top = 0; top < 8; top++) {
            hall.addTop(spins[top], 99 - top, 9 - top, 1 + top, 99999 - 9 * top);
        }
        hall.run(9);
        hall.setMomentum(9999);
        hall.pushCage(999, 999);
        hall.pushCage(949, 2);
        hall.turnRing(1, 359);
        hall.turnRing(2, 180);
        hall.fold(true, 99);
        hall.fold(false, 98);
        hall.twist(180);
        hall.twist(180);
        hall.command('x', 999, 99);
        hall.command('y', -999, 99);
        hall.command('z', 600, 10);
        for (int photograph = 1; photograph <= 6; photograph++) {
            hall.photograph(photograph, 10 * photograph);
        }
        return hall;
    }

    static SpinHall locked() {
        SpinHall hall = busy();
        hall.turnRing(1, 78);
        return hall;
    }
}
