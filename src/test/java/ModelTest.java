import java.lang.reflect.InvocationTargetException;
import java.lang.reflect.Method;
import java.util.Arrays;

/** Long runs of chosen calls, each answered by the program and by the model alike. */
final class ModelTest {
    private static final int CALLS = 512;
    private static final int RUNS = 600;
    private static final int[] EXTREMES = {Integer.MIN_VALUE, Integer.MAX_VALUE, -1, 0, 1};

    // a group, a name, and a range for each int behind it; b is a body, t a top, p a place, often 0
    private static final String[] CALLS_TOLD = {
        "1 addBody", "1 addMass b 1:9 p p p", "1 addMass b 1:2 p p p", "1 addMass b 1:9 -9:9 -9:9 -9:9",
        "1 massOf b", "1 sumOf b x", "1 momentOf b x", "1 productOf b x", "1 kindOf b", "1 loadedAxis b",
        "1 setSpin b -20:20 -20:20 -20:20", "1 setSpin b -1:1 -1:1 -1:1", "1 energyOf b", "1 momentumOf b",
        "1 firmness b x", "1 goesRound b", "1 meanPlace b x",
        "2 addBody", "2 addMass b 1:9 -9:9 -9:9 -9:9", "2 turn b -9:9 -9:9 -9:9 -9:9", "2 turn b -1:1 -1:1 -1:1 -1:1",
        "2 turn b -9:9 0:0 0:0 -9:9", "2 turnOf b 0:3", "2 placeOf b 0:7 x", "2 placeOf b 0:2 x",
        "2 timesBack -9:9 -9:9 -9:9 -9:9", "2 timesBack -3:3 -1:1 -1:1 -1:1", "2 timesBack -3:3 0:0 -3:3 0:0",
        "3 addTop 1:9999 1:99 1:9 1:9 1:99999", "3 addTop 1:999 1:99 1:9 1:9 1:9999", "3 stateOf t", "3 spinOf t",
        "3 pushTop t 1:9999", "3 pushTop t 1:99", "3 run 1:999", "3 run 1:9", "3 events", "3 nextEvent t",
        "3 standing t", "3 placeAt 0:7", "3 wakingShare", "3 wakingShare",
        "4 slips k 0:999 1:999 0:200", "4 slips k 50:70 99:101 29:31", "4 speedSquare k 0:9999",
        "4 setMomentum 1:9999", "4 turnRing 0:2 -360:360", "4 turnRing 1:1 90:90", "4 isLocked",
        "4 pushCage -999:999 1:999", "4 pushCage -99:99 1:9",
        "5 fold f 1:99", "5 fold f 1:99", "5 twist -180:180", "5 twist -1:1", "5 catTurn f f",
        "6 command x -999:999 1:99", "6 command x -999:999 1:9", "6 driftOf x", "6 unload x 1:9999", "6 unload x 1:99",
        "7 seen -1800:1800 1:50", "7 photograph 1:50 -179:180", "7 photograph 1:2 10:14", "7 clearPhotographs",
        "7 rates", "7 slowestRate",
        "0 checksum", "0 isSound"
    };

    private static long seed = 88172645463325252L;

    public static void main(String[] args) throws ReflectiveOperationException {
        for (int run = 0; run < RUNS; run++) {
            // one group of calls alone goes deep, all together go wide
            compare(run, run % 8);
        }
        Check.end();
    }

    private static void compare(int run, int group) throws ReflectiveOperationException {
        SpinHall hall = new SpinHall();
        Model model = new Model();
        for (int call = 0; call < CALLS; call++) {
            String[] told = CALLS_TOLD[next(CALLS_TOLD.length)].split(" ");
            int own = told[0].charAt(0) - '0';
            if (group != 0 && own != 0 && own != group) {
                call--;
                continue;
            }
            Method method = named(SpinHall.class, told[1]);
            Object[] arguments = new Object[told.length - 2];
            for (int i = 0; i < arguments.length; i++) {
                arguments[i] = argument(told[i + 2]);
            }
            Object got = answer(method, hall, arguments);
            Object want = answer(named(Model.class, told[1]), model, arguments);
            Check.due("run " + run + ", call " + call + ": " + told[1] + Arrays.toString(arguments), got, want);
        }
    }

    private static Method named(Class<?> owner, String name) {
        for (Method method : owner.getMethods()) {
            if (method.getName().equals(name)) {
                return method;
            }
        }
        throw new IllegalStateException(name);
    }

    private static Object answer(Method method, Object on, Object[] arguments) throws ReflectiveOperationException {
        try {
            return method.invoke(on, arguments);
        } catch (InvocationTargetException thrown) {
            return thrown.getCause().getClass();
        }
    }

    private static Object argument(String kind) {
        boolean isOdd = next(100) < 2;
        switch (kind) {
            case "x":
                return isOdd ? (char) next(65536) : "xyz".charAt(next(3));
            case "k":
                return isOdd ? (char) next(65536) : "hdb".charAt(next(3));
            case "f":
                return next(2) == 0;
            case "b":
                return isOdd ? next(10) - 2 : next(2);
            case "t":
                return isOdd ? next(12) - 2 : next(8);
            case "p":
                return next(10) < 6 ? 0 : isOdd ? next(24) - 12 : next(5) - 2;
            default:
                return number(kind, isOdd);
        }
    }

    private static int number(String range, boolean isOdd) {
        String[] bounds = range.split(":");
        int least = Integer.parseInt(bounds[0]);
        int most = Integer.parseInt(bounds[1]);
        int choice = next(20);
        if (isOdd) {
            return choice < 8 ? least - 1 : choice < 16 ? most + 1 : EXTREMES[next(EXTREMES.length)];
        }
        return choice == 0 ? least : choice == 1 ? most : least + next(most - least + 1);
    }

    /** The same numbers each time that the test runs. */
    private static int next(int bound) {
        seed ^= seed << 13;
        seed ^= seed >>> 7;
        seed ^= seed << 17;
        return (int) Math.floorMod(seed >> 11, (long) bound);
    }
}
