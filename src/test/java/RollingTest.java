/** Promises 28 and 29: rolling. */
final class RollingTest {
    private static final Class<?> WRONG = IllegalArgumentException.class;

    public static void main(String[] args) {
        slips();
        speedSquare();
        Check.end();
    }

    private static void slips() {
        SpinHall hall = new SpinHall();
        Check.due("a hoop at the bound", hall.slips('h', 60, 100, 30), false);
        Check.due("a hoop above it", hall.slips('h', 61, 100, 30), true);
        Check.due("a disc at the bound", hall.slips('d', 90, 100, 30), false);
        Check.due("a disc above it", hall.slips('d', 91, 100, 30), true);
        Check.due("a ball at the bound", hall.slips('b', 105, 100, 30), false);
        Check.due("a ball above it", hall.slips('b', 106, 100, 30), true);
        Check.due("level ground without friction", hall.slips('b', 0, 1, 0), false);
        Check.due("a slope without friction", hall.slips('h', 1, 999, 0), true);
        Check.due("the greatest slope", hall.slips('b', 999, 1, 200), true);
        Check.due("the greatest friction", hall.slips('h', 999, 999, 200), false);
        for (char kind : new char[] {'a', 'c', 'e', 'g', 'i', 'H', 0, 65535}) {
            Check.refused(SpinHall::new, "slips of " + (int) kind, WRONG, h -> h.slips(kind, 1, 1, 1));
            Check.refused(SpinHall::new, "speedSquare of " + (int) kind, WRONG, h -> h.speedSquare(kind, 1));
        }
        Check.refused(SpinHall::new, "rise -1", WRONG, h -> h.slips('h', -1, 1, 0));
        Check.refused(SpinHall::new, "rise 1000", WRONG, h -> h.slips('h', 1000, 1, 0));
        Check.refused(SpinHall::new, "along 0", WRONG, h -> h.slips('h', 1, 0, 0));
        Check.refused(SpinHall::new, "along 1000", WRONG, h -> h.slips('h', 1, 1000, 0));
        Check.refused(SpinHall::new, "friction -1", WRONG, h -> h.slips('h', 1, 1, -1));
        Check.refused(SpinHall::new, "friction 201", WRONG, h -> h.slips('h', 1, 1, 201));
    }

    private static void speedSquare() {
        SpinHall hall = new SpinHall();
        Check.due("a hoop", hall.speedSquare('h', 7), 70);
        Check.due("a disc", hall.speedSquare('d', 7), 93);
        Check.due("a disc, whole", hall.speedSquare('d', 3), 40);
        Check.due("a ball", hall.speedSquare('b', 7), 100);
        Check.due("a ball, rounded down", hall.speedSquare('b', 6), 85);
        Check.due("no height", hall.speedSquare('b', 0), 0);
        Check.due("the greatest height", hall.speedSquare('b', 9999), 142842);
        Check.refused(SpinHall::new, "height -1", WRONG, h -> h.speedSquare('h', -1));
        Check.refused(SpinHall::new, "height 10000", WRONG, h -> h.speedSquare('h', 10000));
    }
}
