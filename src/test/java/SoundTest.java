import java.lang.reflect.Array;
import java.lang.reflect.Constructor;
import java.lang.reflect.Field;

/** Promise 48 where it answers false: no call leads there, so the hall is broken from inside, by its fields' names. */
final class SoundTest {
    private interface Breaking {
        void breakHall(SpinHall hall) throws ReflectiveOperationException;
    }

    public static void main(String[] args) throws ReflectiveOperationException {
        moments();
        turns();
        tops();
        due("kept below the momentum", true, hall -> set(get(hall, "cage"), "kept", 499));
        due("kept as much as the momentum", false, hall -> set(get(hall, "cage"), "kept", 500));
        due("kept below the momentum, below 0", true, hall -> set(get(hall, "cage"), "kept", -499));
        due("kept as much as the momentum, below 0", false, hall -> set(get(hall, "cage"), "kept", -500));
        for (int wheel = 0; wheel < 3; wheel++) {
            int number = wheel;
            due("the most speed", true, hall -> setSpeed(hall, number, 6000));
            due("beyond the most speed", false, hall -> setSpeed(hall, number, 6001));
            due("the least speed", true, hall -> setSpeed(hall, number, -6000));
            due("beyond the least speed", false, hall -> setSpeed(hall, number, -6001));
        }
        Check.end();
    }

    private static void due(String what, boolean want, Breaking breaking) throws ReflectiveOperationException {
        SpinHall hall = new SpinHall();
        hall.addBody();
        hall.addBody();
        hall.addTop(300, 10, 1, 1, 10000);
        hall.addTop(300, 10, 1, 1, 10000);
        hall.setMomentum(500);
        breaking.breakHall(hall);
        Check.due("isSound() with " + what, hall.isSound(), want);
    }

    private static void moments() throws ReflectiveOperationException {
        String[] axes = {"xs", "ys", "zs"};
        for (int axis = 0; axis < 3; axis++) {
            String own = axes[axis];
            String one = axes[(axis + 1) % 3];
            String two = axes[(axis + 2) % 3];
            // a mass of -1 makes the moments of a rod 0, -1 and -1, and 0 is more than both others together
            due("a rod along " + own, true, hall -> setRod(hall, own, 1));
            due("moments below 0 that do not fit, along " + own, false, hall -> setRod(hall, own, -1));
            // the moments are 90, 45 and 45; a mass of -1 takes 7 off each of both others
            due("a flat body across " + own, true, hall -> setDisc(hall, own, one, two, 0));
            due("moments that do not fit, across " + own, false, hall -> setDisc(hall, own, one, two, -1));
        }
    }

    /** A mass on each of two axes, one on the third axis that may be below 0, and the rest of 6 at the centre. */
    private static void setDisc(SpinHall hall, String own, String one, String two, int mass)
            throws ReflectiveOperationException {
        Object body = Array.get(get(hall, "bodies"), 1);
        int[] masses = {1, 1, mass, 4 - mass};
        for (int i = 0; i < masses.length; i++) {
            Array.setInt(get(body, "masses"), i, masses[i]);
        }
        Array.setInt(get(body, one), 0, 3);
        Array.setInt(get(body, two), 1, 3);
        Array.setInt(get(body, own), 2, 1);
    }

    private static void setRod(SpinHall hall, String places, int mass) throws ReflectiveOperationException {
        Object body = Array.get(get(hall, "bodies"), 1);
        Array.setInt(get(body, "masses"), 0, 1);
        Array.setInt(get(body, "masses"), 1, mass);
        Array.setInt(get(body, places), 1, 1);
    }

    private static void turns() throws ReflectiveOperationException {
        due("a turn", true, hall -> setTurn(hall, 2, -3, 5, -7));
        due("a turn with a common divisor", false, hall -> setTurn(hall, 2, -4, 6, -8));
        due("a turn below 0", false, hall -> setTurn(hall, -1, 0, 0, 0));
        due("a turn below 0 by z", false, hall -> setTurn(hall, 0, 0, 0, -1));
        due("a turn with a divisor by itself", false, hall -> setTurn(hall, 0, 2, 0, 0));
    }

    private static void setTurn(SpinHall hall, long w, long x, long y, long z) throws ReflectiveOperationException {
        Object body = Array.get(get(hall, "bodies"), 1);
        Object turn = get(body, "turned");
        Constructor<?> constructor = turn.getClass().getDeclaredConstructors()[0];
        constructor.setAccessible(true);
        set(body, "turned", constructor.newInstance(w, x, y, z));
    }

    private static void tops() throws ReflectiveOperationException {
        due("a top at the bound", true, hall -> setSpin(hall, 100));
        due("a top below the bound", false, hall -> setSpin(hall, 99));
    }

    private static void setSpin(SpinHall hall, int spin) throws ReflectiveOperationException {
        set(Array.get(get(hall, "tops"), 1), "spin", spin);
    }

    private static void setSpeed(SpinHall hall, int wheel, int speed) throws ReflectiveOperationException {
        Array.setInt(get(get(hall, "craft"), "speeds"), wheel, speed);
    }

    private static Field field(Object of, String name) throws ReflectiveOperationException {
        Field field = of.getClass().getDeclaredField(name);
        field.setAccessible(true);
        return field;
    }

    private static Object get(Object of, String name) throws ReflectiveOperationException {
        return field(of, name).get(of);
    }

    private static void set(Object of, String name, Object value) throws ReflectiveOperationException {
        field(of, name).set(of, value);
    }
}
