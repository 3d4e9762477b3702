/** Promises 45 to 48: figures. */
final class FiguresTest {
    private static final Class<?> NO_INDEX = IndexOutOfBoundsException.class;

    public static void main(String[] args) {
        checksum();
        wakingShare();
        meanPlace();
        isSound();
        Check.end();
    }

    private static long summed(long... numbers) {
        long sum = 7;
        for (long number : numbers) {
            sum = 31 * sum + number;
        }
        return sum;
    }

    private static SpinHall busy() {
        SpinHall hall = new SpinHall();
        hall.addBody();
        hall.addBody();
        hall.turn(0, 2, -3, 5, -7);
        hall.turn(1, 0, 1, 2, 3);
        hall.addTop(300, 10, 1, 1, 10000);
        hall.addTop(10, 10, 1, 1, 10000);
        hall.addTop(150, 10, 1, 1, 10000);
        hall.turnRing(0, 11);
        hall.turnRing(1, 12);
        hall.turnRing(2, -13);
        hall.command('x', 101, 1);
        hall.command('y', -102, 1);
        hall.command('z', 103, 1);
        return hall;
    }

    private static void checksum() {
        Check.due("checksum() at first", new SpinHall().checksum(), summed(0, 0, 0, 0, 0, 0));
        long due = summed(2, -3, 5, -7, 0, 1, 2, 3, 300, 0, 150, 11, 12, 347, 101, -102, 103);
        Check.due("checksum()", busy().checksum(), due);
        SpinHall masses = busy();
        masses.addMass(0, 1, 2, 3, 4);
        masses.setSpin(0, 1, 2, 3);
        masses.twist(10);
        masses.photograph(1, 2);
        masses.pushCage(1, 2);
        Check.due("checksum() with what does not count", masses.checksum(), due);
    }

    private static void wakingShare() {
        Check.due("wakingShare() of two", busy().wakingShare(), 0.5f);
        SpinHall third = busy();
        third.addTop(1000, 1, 1, 1, 1);
        Check.due("wakingShare() of three", third.wakingShare(), 1f / 3f);
        SpinHall none = new SpinHall();
        none.addTop(300, 10, 1, 1, 10000);
        Check.due("wakingShare() of one that sleeps", none.wakingShare(), 0f);
        none.run(11);
        Check.due("wakingShare() of one that nods", none.wakingShare(), 1f);
        Check.refused(SpinHall::new, "wakingShare() of none", ArithmeticException.class, SpinHall::wakingShare);
        Check.refused(FiguresTest::lying, "wakingShare() of those that lie", ArithmeticException.class,
            SpinHall::wakingShare);
    }

    private static SpinHall lying() {
        SpinHall hall = new SpinHall();
        hall.addTop(10, 10, 1, 1, 10000);
        hall.addBody();
        return hall;
    }

    private static void meanPlace() {
        SpinHall hall = lying();
        hall.addMass(0, 1, 1, -9, 0);
        hall.addMass(0, 2, 1, 2, 0);
        hall.turn(0, 1, 1, 0, 0);
        Check.due("meanPlace x", hall.meanPlace(0, 'x'), 1.0);
        Check.due("meanPlace y", hall.meanPlace(0, 'y'), -5.0 / 3.0);
        Check.due("meanPlace z", hall.meanPlace(0, 'z'), 0.0);
        Check.refused(FiguresTest::lying, "meanPlace(1, 'w')", NO_INDEX, h -> h.meanPlace(1, 'w'));
        Check.refused(FiguresTest::lying, "meanPlace(0, 'w')", IllegalArgumentException.class,
            h -> h.meanPlace(0, 'w'));
        Check.refused(FiguresTest::lying, "meanPlace of no masses", ArithmeticException.class,
            h -> h.meanPlace(0, 'x'));
    }

    private static void isSound() {
        SpinHall hall = busy();
        Check.due("isSound()", hall.isSound(), true);
        hall.addMass(0, 9, -9, 9, 9);
        hall.addMass(0, 1, 9, 9, 9);
        hall.addMass(0, 4, 9, -9, 0);
        hall.addMass(1, 4, 9, -9, 0);
        hall.run(11);
        hall.command('y', -999, 99);
        hall.command('z', 999, 99);
        hall.pushCage(-999, 1);
        Check.due("isSound() in motion", hall.isSound(), true);
        hall.setMomentum(1);
        Check.due("isSound() with another momentum", hall.isSound(), true);
        hall.run(999);
        Check.due("isSound() when all lie", hall.isSound(), true);
    }
}
