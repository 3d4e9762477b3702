import java.util.function.Consumer;
import java.util.function.Supplier;

/** Compares answers with those that are due, prints each that differs, and ends the test. */
final class Check {
    private static int wrong;
    private static int count;

    private Check() {
    }

    static void due(String call, Object got, Object want) {
        count++;
        if (!got.equals(want)) {
            wrong++;
            System.out.println(Sentence.current() + call + " answered " + got + ", due is " + want);
        }
    }

    /** The call throws exactly this exception, and leaves a hall that reads as one without the call. */
    static void refused(Supplier<SpinHall> maker, String call, Class<?> want, Consumer<SpinHall> action) {
        due(call + " throws", thrownBy(maker.get(), action), want);
        String behind = Readings.of(() -> {
            SpinHall hall = maker.get();
            thrownBy(hall, action);
            return hall;
        });
        due("all that is read behind " + call, behind, Readings.of(maker));
    }

    private static Object thrownBy(SpinHall hall, Consumer<SpinHall> action) {
        try {
            action.accept(hall);
            return "nothing";
        } catch (RuntimeException thrown) {
            return thrown.getClass();
        }
    }

    static int count() {
        return count;
    }

    static void end() {
        System.out.println(wrong == 0 ? count + " answers are as due" : wrong + " of " + count + " answers are not");
        if (wrong != 0) {
            System.exit(1);
        }
    }
}
