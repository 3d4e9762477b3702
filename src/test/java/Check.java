import java.util.function.Consumer;
import java.util.function.Supplier;

/** Compares answers with those that are due, prints each that differs, and ends the test. */
final class Check {
    private static int wrong;
    private static int count;

    private Check() {
    }

    static void due(String call, Object got, Object want) {
        count++;
        if (!got.equals(want)) {
            wrong++;
            System.out.println(call + " answered " + got + ", due is " + want);
        }
    }

    /** The call throws exactly this exception, and leaves a hall that reads as one without the call. */
    static void refused(Supplier<SpinHall> maker, String call, Class<?> want, Consumer<SpinHall> action) {
        SpinHall hall = maker.get();
        Object got = "nothing";
        try {
            action.accept(hall);
        } catch (RuntimeException thrown) {
            got = thrown.getClass();
        }
        due(call + " throws", got, want);
        due("all that is read behind " + call, Readings.of(hall), Readings.of(maker.get()));
    }

    static void end() {
        System.out.println(wrong == 0 ? count + " answers are as due" : wrong + " of " + count + " answers are not");
        if (wrong != 0) {
            System.exit(1);
        }
    }
}
