import java.util.function.Supplier;

/** Edges that many calls have alike. */
final class Edge {
    static final Class<?> NO_INDEX = IndexOutOfBoundsException.class;
    static final Class<?> WRONG = IllegalArgumentException.class;

    private static final int[] FAR = {Integer.MIN_VALUE, Integer.MAX_VALUE};
    private static final char[] NO_AXES = {'w', '{', 'X', 'Y', 'Z', '-', 0, (char) ('x' + 256), 65535};
    private static final char[] NO_KINDS = {'a', 'c', 'e', 'g', 'i', 'H', 'D', 'B', 0, (char) ('h' + 256), 65535};

    interface Numbered {
        Object on(SpinHall hall, int number);
    }

    interface Signed {
        Object on(SpinHall hall, char sign);
    }

    private Edge() {
    }

    /** The last number inside a range is taken, at either end. */
    static void inside(String what, Supplier<SpinHall> maker, int least, Object atLeast, int most, Object atMost,
            Numbered call) {
        Check.due(what + " with " + least, call.on(maker.get(), least), atLeast);
        Check.due(what + " with " + most, call.on(maker.get(), most), atMost);
    }

    /** The first number outside a range is refused, at either end, and so are those far from it. */
    static void outside(String what, Supplier<SpinHall> maker, int least, int most, Numbered call) {
        refusedWith(what, maker, WRONG, least - 1, call);
        refusedWith(what, maker, WRONG, most + 1, call);
        for (int far : FAR) {
            refusedWith(what, maker, WRONG, far, call);
        }
    }

    static void refusedWith(String what, Supplier<SpinHall> maker, Class<?> want, int number, Numbered call) {
        Check.refused(maker, what + " with " + number, want, hall -> call.on(hall, number));
    }

    /** Bodies that are not there: in the empty hall, in the busy one, which has three, and in the full one. */
    static void noBody(String what, Numbered call) {
        noNumber(what, 3, 6, call);
    }

    /** Tops that are not there; the busy hall has three. */
    static void noTop(String what, Numbered call) {
        noNumber(what, 3, 8, call);
    }

    private static void noNumber(String what, int busy, int full, Numbered call) {
        for (int number : new int[] {-1, 0, full - 1}) {
            refusedWith(what + " in the empty hall", Halls::none, NO_INDEX, number, call);
        }
        for (int number : new int[] {-1, busy, full - 1, full, FAR[0], FAR[1]}) {
            refusedWith(what + " in the busy hall", Halls::busy, NO_INDEX, number, call);
        }
        for (int number : new int[] {-1, full, FAR[0], FAR[1]}) {
            refusedWith(what + " in the full hall", Halls::full, NO_INDEX, number, call);
        }
    }

    static void noAxis(String what, Supplier<SpinHall> maker, Signed call) {
        noSign(what, maker, NO_AXES, call);
    }

    static void noKind(String what, Signed call) {
        noSign(what, Halls::busy, NO_KINDS, call);
    }

    private static void noSign(String what, Supplier<SpinHall> maker, char[] signs, Signed call) {
        for (char sign : signs) {
            Check.refused(maker, what + " of sign " + (int) sign, WRONG, hall -> call.on(hall, sign));
        }
    }

    /** The answers for the axes x, y and z, in this order. */
    static void axes(String what, Supplier<SpinHall> maker, Object x, Object y, Object z, Signed call) {
        Check.due(what + " of x", call.on(maker.get(), 'x'), x);
        Check.due(what + " of y", call.on(maker.get(), 'y'), y);
        Check.due(what + " of z", call.on(maker.get(), 'z'), z);
    }
}
