import java.io.IOException;
import java.nio.file.Files;
import java.nio.file.Path;
import java.util.ArrayList;
import java.util.List;
import java.util.regex.Matcher;
import java.util.regex.Pattern;

/** The calls that README.md shows, one after the other on one hall, answer what stands behind them there. */
final class ReadmeTest {
    private static final List<String> SHOWN = new ArrayList<>();
    private static int checked;

    public static void main(String[] args) throws IOException {
        Pattern line = Pattern.compile("(?m)^(?:int \\w+ = )?(hall\\..*);\\s+// ('.'|-?[\\w.]+)");
        Matcher shown = line.matcher(Files.readString(Path.of("README.md")));
        while (shown.find()) {
            SHOWN.add(shown.group(1) + " = " + shown.group(2));
        }
        SpinHall hall = new SpinHall();
        bodies(hall);
        tops(hall);
        cageAndCat(hall);
        craftAndPhotographs(hall);
        figures(hall);
        Check.due("the calls of README.md that are checked", checked, SHOWN.size());
        Check.end();
    }

    private static void next(String call, Object got) {
        String text = got instanceof Character ? "'" + got + "'" : got.toString();
        Check.due("README.md's next call", checked < SHOWN.size() ? SHOWN.get(checked) : "", call + " = " + text);
        checked++;
    }

    private static void bodies(SpinHall hall) {
        next("hall.addBody()", hall.addBody());
        next("hall.addMass(body, 1, 2, 0, 0)", hall.addMass(0, 1, 2, 0, 0));
        next("hall.addMass(body, 1, -2, 0, 0)", hall.addMass(0, 1, -2, 0, 0));
        next("hall.massOf(body)", hall.massOf(0));
        next("hall.sumOf(body, 'x')", hall.sumOf(0, 'x'));
        next("hall.momentOf(body, 'z')", hall.momentOf(0, 'z'));
        next("hall.productOf(body, 'z')", hall.productOf(0, 'z'));
        next("hall.kindOf(body)", hall.kindOf(0));
        next("hall.loadedAxis(body)", hall.loadedAxis(0));
        next("hall.setSpin(body, 0, 0, 3)", hall.setSpin(0, 0, 0, 3));
        next("hall.energyOf(body)", hall.energyOf(0));
        next("hall.momentumOf(body)", hall.momentumOf(0));
        next("hall.firmness(body, 'x')", hall.firmness(0, 'x'));
        next("hall.turn(body, 1, 0, 0, 1)", hall.turn(0, 1, 0, 0, 1));
        next("hall.turnOf(body, 3)", hall.turnOf(0, 3));
        next("hall.placeOf(body, 0, 'y')", hall.placeOf(0, 0, 'y'));
        next("hall.timesBack(1, 0, 0, 1)", hall.timesBack(1, 0, 0, 1));
    }

    private static void tops(SpinHall hall) {
        next("hall.addTop(200, 10, 1, 1, 5000)", hall.addTop(200, 10, 1, 1, 5000));
        next("hall.stateOf(top)", hall.stateOf(0));
        next("hall.nextEvent(top)", hall.nextEvent(0));
        next("hall.run(6)", hall.run(6));
        next("hall.standing(top)", hall.standing(0));
        next("hall.pushTop(top, 1)", hall.pushTop(0, 1));
        next("hall.spinOf(top)", hall.spinOf(0));
        next("hall.events()", hall.events());
        next("hall.placeAt(0)", hall.placeAt(0));
        next("hall.slips('h', 1, 2, 20)", hall.slips('h', 1, 2, 20));
        next("hall.speedSquare('b', 7)", hall.speedSquare('b', 7));
    }

    private static void cageAndCat(SpinHall hall) {
        next("hall.setMomentum(500)", hall.setMomentum(500));
        next("hall.pushCage(150, 5)", hall.pushCage(150, 5));
        next("hall.pushCage(250, 1)", hall.pushCage(250, 1));
        next("hall.turnRing(1, 90)", hall.turnRing(1, 90));
        next("hall.isLocked()", hall.isLocked());
        next("hall.fold(true, 20)", hall.fold(true, 20));
        next("hall.twist(50)", hall.twist(50));
        next("hall.catTurn(true, true)", hall.catTurn(true, true));
        next("hall.catTurn(true, false)", hall.catTurn(true, false));
        next("hall.catTurn(false, true)", hall.catTurn(false, true));
    }

    private static void craftAndPhotographs(SpinHall hall) {
        next("hall.command('x', 999, 7)", hall.command('x', 999, 7));
        next("hall.driftOf('x')", hall.driftOf('x'));
        next("hall.unload('x', 1000)", hall.unload('x', 1000));
        next("hall.seen(350, 1)", hall.seen(350, 1));
        next("hall.photograph(1, -10)", hall.photograph(1, -10));
        next("hall.rates()", hall.rates());
        next("hall.slowestRate()", hall.slowestRate());
        next("hall.clearPhotographs()", hall.clearPhotographs());
    }

    private static void figures(SpinHall hall) {
        next("hall.wakingShare()", hall.wakingShare());
        next("hall.meanPlace(body, 'x')", hall.meanPlace(0, 'x'));
        next("hall.isSound()", hall.isSound());
    }
}
