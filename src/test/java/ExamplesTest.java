import java.io.IOException;
import java.nio.file.Files;
import java.nio.file.Path;
import java.util.ArrayList;
import java.util.List;

/** The examples that stand in the document's Terms, one behind the other; each one begins with a new object. */
final class ExamplesTest {
    private static final List<String> TOLD = new ArrayList<>();
    private static int checked;

    public static void main(String[] args) throws IOException {
        readExamples(Files.readString(Path.of("../shared/DOC.md")));

        begin();
        SpinHall rod = new SpinHall();
        next("addBody()", rod.addBody(), 0);
        next("addMass(0, 1, 2, 0, 0)", rod.addMass(0, 1, 2, 0, 0), 0);
        next("addMass(0, 1, -2, 0, 0)", rod.addMass(0, 1, -2, 0, 0), 1);
        next("momentOf(0, 'z')", rod.momentOf(0, 'z'), 16);
        next("kindOf(0)", rod.kindOf(0), 'r');

        begin();
        SpinHall turned = new SpinHall();
        next("addBody()", turned.addBody(), 0);
        next("addMass(0, 1, 5, 0, 0)", turned.addMass(0, 1, 5, 0, 0), 0);
        next("turn(0, 1, 0, 0, 1)", turned.turn(0, 1, 0, 0, 1), false);
        next("placeOf(0, 0, 'y')", turned.placeOf(0, 0, 'y'), 5000);
        next("timesBack(1, 0, 0, 1)", turned.timesBack(1, 0, 0, 1), 4);

        begin();
        SpinHall top = new SpinHall();
        next("addTop(200, 10, 1, 1, 5000)", top.addTop(200, 10, 1, 1, 5000), 0);
        next("stateOf(0)", top.stateOf(0), 's');
        next("run(6)", top.run(6), 1);
        next("stateOf(0)", top.stateOf(0), 'n');
        next("standing(0)", top.standing(0), 7);

        Check.due("the lines of the document's examples that are checked", checked, TOLD.size());
        Check.end();
    }

    /** A line for each new object and for each of its calls. */
    private static void readExamples(String document) {
        int from = document.indexOf("\n- ", document.indexOf("Examples: each one begins with a new object"));
        String examples = document.substring(from, document.indexOf("Ahead of the calls", from));
        // the document's last words of a long example stand in a block of text
        String joined = examples.replace("```text", "").replace("```", "").replaceAll("\\s+", " ").strip();
        for (String example : joined.substring(2).split("\\. - ")) {
            TOLD.add("a new object");
            for (String call : example.replaceAll("\\.$", "").split("; ")) {
                TOLD.add(call);
            }
        }
    }

    private static void begin() {
        line("a new object");
    }

    private static void next(String call, Object got, Object want) {
        Check.due(call, got, want);
        line(call + " = " + (want instanceof Character ? "'" + want + "'" : want));
    }

    private static void line(String want) {
        Check.due("the document's next line", checked < TOLD.size() ? TOLD.get(checked) : "", want);
        checked++;
    }
}
