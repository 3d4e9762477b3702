import java.util.function.Supplier;

/** All that can be read of a hall as one text; reading changes a hall, so each part of it reads one of its own. */
final class Readings {
    private static final char[] AXES = {'x', 'y', 'z'};

    private Readings() {
    }

    static String of(Supplier<SpinHall> maker) {
        StringBuilder text = new StringBuilder();
        readBodies(maker.get(), text);
        readTops(maker.get(), text);
        readPhotographs(maker.get(), text);
        readCat(maker.get(), text);
        readCraft(maker.get(), text);
        readCage(maker.get(), text);
        readLeastPush(maker, text);
        readRoom(maker.get(), text);
        return text.toString();
    }

    private static boolean isThere(SpinHall hall, int body) {
        try {
            hall.massOf(body);
            return true;
        } catch (IndexOutOfBoundsException thrown) {
            return false;
        }
    }

    private static void readBodies(SpinHall hall, StringBuilder text) {
        for (int body = 0; body < 6 && isThere(hall, body); body++) {
            readBody(hall, body, text);
        }
        add(text, "checksum", hall::checksum);
        add(text, "sound", hall::isSound);
    }

    private static void readBody(SpinHall hall, int body, StringBuilder text) {
        add(text, "mass", () -> hall.massOf(body));
        add(text, "energy", () -> hall.energyOf(body));
        add(text, "momentum", () -> hall.momentumOf(body));
        add(text, "round", () -> hall.goesRound(body));
        add(text, "kind", () -> hall.kindOf(body));
        add(text, "loaded", () -> hall.loadedAxis(body));
        for (int index = 0; index < 4; index++) {
            int number = index;
            add(text, "turn", () -> hall.turnOf(body, number));
        }
        for (char axis : AXES) {
            add(text, "sum", () -> hall.sumOf(body, axis));
            add(text, "moment", () -> hall.momentOf(body, axis));
            add(text, "product", () -> hall.productOf(body, axis));
            add(text, "firmness", () -> hall.firmness(body, axis));
            for (int mass = 0; mass < 8; mass++) {
                int number = mass;
                add(text, "place", () -> hall.placeOf(body, number, axis));
            }
        }
    }

    private static void readTops(SpinHall hall, StringBuilder text) {
        for (int top = 0; top < 8; top++) {
            int number = top;
            add(text, "state", () -> hall.stateOf(number));
            add(text, "spin", () -> hall.spinOf(number));
            add(text, "next", () -> hall.nextEvent(number));
            add(text, "standing", () -> hall.standing(number));
            add(text, "rank", () -> hall.placeAt(number));
        }
        add(text, "events", hall::events);
        add(text, "waking", hall::wakingShare);
        add(text, "events of a tick", () -> hall.run(1));
        for (int top = 0; top < 8; top++) {
            int number = top;
            add(text, "spin behind a tick", () -> hall.spinOf(number));
        }
    }

    private static void readPhotographs(SpinHall hall, StringBuilder text) {
        add(text, "rates", hall::rates);
        add(text, "slowest", hall::slowestRate);
        add(text, "photographs", hall::clearPhotographs);
    }

    private static void readCat(SpinHall hall, StringBuilder text) {
        add(text, "front", () -> hall.catTurn(true, true));
        add(text, "front below", () -> hall.catTurn(true, false));
        add(text, "back", () -> hall.catTurn(false, true));
        add(text, "back below", () -> hall.catTurn(false, false));
        add(text, "twisted", () -> hall.twist(0));
        add(text, "front moment", () -> hall.fold(true, 1));
        add(text, "back moment", () -> hall.fold(false, 1));
    }

    private static void readCraft(SpinHall hall, StringBuilder text) {
        for (char axis : AXES) {
            add(text, "drift", () -> hall.driftOf(axis));
            add(text, "speed", () -> hall.command(axis, 0, 1));
        }
    }

    private static void readCage(SpinHall hall, StringBuilder text) {
        for (int ring = 0; ring < 3; ring++) {
            int number = ring;
            add(text, "ring", () -> hall.turnRing(number, 0));
        }
        add(text, "locked", hall::isLocked);
        add(text, "momentum of the wheel", () -> hall.setMomentum(1));
    }

    /** The least push that turns the ring 0 on tells what is kept; each push is tried on a hall of its own. */
    private static void readLeastPush(Supplier<SpinHall> maker, StringBuilder text) {
        int least = 1;
        int most = 2 * maker.get().setMomentum(1);
        while (least < most) {
            int push = (least + most) / 2;
            if (isTurnedBy(maker.get(), push)) {
                most = push;
            } else {
                least = push + 1;
            }
        }
        text.append("least push ").append(least).append("; ");
    }

    private static boolean isTurnedBy(SpinHall hall, int push) {
        if (hall.isLocked()) {
            hall.turnRing(1, 1);
        }
        int before = hall.turnRing(0, 0);
        if (push >= 100) {
            hall.pushCage(100, push / 100);
        }
        return hall.pushCage(push % 100, 1) != before;
    }

    /** The numbers that the next ones get tell how many there are. */
    private static void readRoom(SpinHall hall, StringBuilder text) {
        for (int body = 0; body < 6; body++) {
            int number = body;
            add(text, "next mass", () -> hall.addMass(number, 1, 0, 0, 0));
        }
        add(text, "next body", hall::addBody);
        add(text, "next top", () -> hall.addTop(1, 1, 1, 1, 1));
        add(text, "next photograph", () -> hall.photograph(1, 0));
    }

    private static void add(StringBuilder text, String name, Supplier<Object> reading) {
        Object read;
        try {
            read = reading.get();
        } catch (RuntimeException thrown) {
            read = thrown.getClass().getSimpleName();
        }
        text.append(name).append(' ').append(read).append("; ");
    }
}
