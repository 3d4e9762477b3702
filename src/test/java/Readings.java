import java.util.function.Supplier;

/** All that can be read of a hall as one text; the hall is used up by it. */
final class Readings {
    private static final char[] AXES = {'x', 'y', 'z'};

    private Readings() {
    }

    static String of(SpinHall hall) {
        StringBuilder text = new StringBuilder();
        for (int body = 0; body < 6; body++) {
            if (!isThere(hall, body)) {
                break;
            }
            readBody(hall, body, text);
        }
        for (int top = 0; top < 8; top++) {
            int number = top;
            add(text, "state", () -> hall.stateOf(number));
            add(text, "spin", () -> hall.spinOf(number));
            add(text, "next", () -> hall.nextEvent(number));
            add(text, "standing", () -> hall.standing(number));
        }
        add(text, "events", hall::events);
        add(text, "checksum", hall::checksum);
        add(text, "rates", hall::rates);
        add(text, "slowest", hall::slowestRate);
        add(text, "photographs", hall::clearPhotographs);
        readCat(hall, text);
        for (char axis : AXES) {
            add(text, "drift", () -> hall.driftOf(axis));
            add(text, "speed", () -> hall.command(axis, 0, 1));
        }
        readCage(hall, text);
        return text.toString();
    }

    private static boolean isThere(SpinHall hall, int body) {
        try {
            hall.massOf(body);
            return true;
        } catch (IndexOutOfBoundsException thrown) {
            return false;
        }
    }

    private static void readBody(SpinHall hall, int body, StringBuilder text) {
        add(text, "mass", () -> hall.massOf(body));
        add(text, "energy", () -> hall.energyOf(body));
        add(text, "momentum", () -> hall.momentumOf(body));
        add(text, "round", () -> hall.goesRound(body));
        for (int index = 0; index < 4; index++) {
            int number = index;
            add(text, "turn", () -> hall.turnOf(body, number));
        }
        for (char axis : AXES) {
            add(text, "sum", () -> hall.sumOf(body, axis));
            add(text, "moment", () -> hall.momentOf(body, axis));
            add(text, "product", () -> hall.productOf(body, axis));
        }
        for (int mass = 0; mass < 8; mass++) {
            int number = mass;
            add(text, "place", () -> hall.placeOf(body, number, 'x'));
        }
    }

    private static void readCat(SpinHall hall, StringBuilder text) {
        add(text, "front", () -> hall.catTurn(true, true));
        add(text, "front below", () -> hall.catTurn(true, false));
        add(text, "back", () -> hall.catTurn(false, true));
        add(text, "back below", () -> hall.catTurn(false, false));
        add(text, "twisted", () -> hall.twist(0));
        add(text, "front moment", () -> hall.fold(true, 1));
        add(text, "back moment", () -> hall.fold(false, 1));
    }

    private static void readCage(SpinHall hall, StringBuilder text) {
        for (int ring = 0; ring < 3; ring++) {
            int number = ring;
            add(text, "ring", () -> hall.turnRing(number, 0));
        }
        add(text, "locked", hall::isLocked);
        add(text, "pushed once", () -> hall.pushCage(1, 1));
        add(text, "pushed", () -> hall.pushCage(997, 1));
        add(text, "momentum of the wheel", () -> hall.setMomentum(1));
    }

    private static void add(StringBuilder text, String name, Supplier<Object> reading) {
        Object read;
        try {
            read = reading.get();
        } catch (RuntimeException thrown) {
            read = thrown.getClass().getSimpleName();
        }
        text.append(name).append(' ').append(read).append("; ");
    }
}
