import java.io.IOException;
import java.lang.reflect.Constructor;
import java.lang.reflect.Field;
import java.lang.reflect.Method;
import java.lang.reflect.Modifier;
import java.nio.file.Files;
import java.nio.file.Path;
import java.util.Arrays;
import java.util.Set;
import java.util.TreeSet;
import java.util.regex.Matcher;
import java.util.regex.Pattern;
import java.util.stream.Collectors;

/** The class has the document's face, with its throws clauses, and no other member that is not private. */
final class FaceTest {
    private static final String I = "IndexOutOfBoundsException";
    private static final String A = "IllegalArgumentException";
    private static final String S = "IllegalStateException";
    private static final String N = "NoSuchElementException";
    private static final String U = "UnsupportedOperationException";
    private static final String R = "ArithmeticException";

    private static final Set<String> FACE = new TreeSet<>(Set.of(
        line("int addBody()", S), line("int addMass(int,int,int,int,int)", I, A, S), line("int massOf(int)", I),
        line("int sumOf(int,char)", I, A), line("int momentOf(int,char)", I, A),
        line("int productOf(int,char)", I, A), line("char kindOf(int)", I, N, U), line("char loadedAxis(int)", I),
        line("long setSpin(int,int,int,int)", I, A), line("long energyOf(int)", I), line("long momentumOf(int)", I),
        line("char firmness(int,char)", I, A, U), line("char goesRound(int)", I, U, N),
        line("boolean turn(int,int,int,int,int)", I, A, R), line("int turnOf(int,int)", I, A),
        line("int placeOf(int,int,char)", I, A), line("int timesBack(int,int,int,int)", A, N),
        line("int addTop(int,int,int,int,int)", A, S), line("char stateOf(int)", I), line("int spinOf(int)", I),
        line("int pushTop(int,int)", I, A, U), line("int run(int)", A), line("int events()"),
        line("int nextEvent(int)", I, N), line("int standing(int)", I), line("int placeAt(int)", N),
        line("boolean slips(char,int,int,int)", A), line("int speedSquare(char,int)", A),
        line("int setMomentum(int)", A), line("int turnRing(int,int)", A), line("boolean isLocked()"),
        line("int pushCage(int,int)", A, U), line("int fold(boolean,int)", A), line("int twist(int)", A, R),
        line("long catTurn(boolean,boolean)"), line("int command(char,int,int)", A), line("long driftOf(char)", A),
        line("int unload(char,int)", A), line("int seen(int,int)", A), line("int photograph(int,int)", A, S),
        line("int clearPhotographs()"), line("int rates()"), line("int slowestRate()", N), line("long checksum()"),
        line("float wakingShare()", R), line("double meanPlace(int,char)", I, A, R), line("boolean isSound()")));

    public static void main(String[] args) throws IOException {
        Check.due("the face that the document tells", told(Files.readString(Path.of("../shared/DOC.md"))), FACE);
        Set<String> seen = new TreeSet<>();
        Set<String> hidden = new TreeSet<>();
        for (Method method : SpinHall.class.getDeclaredMethods()) {
            if (method.getModifiers() == Modifier.PUBLIC) {
                seen.add(line(method.getReturnType() + " " + method.getName() + parameters(method),
                    names(method.getExceptionTypes())));
            } else {
                Check.due(method + " is private", Modifier.isPrivate(method.getModifiers()), true);
                hidden.add(method.getName());
            }
        }
        Check.due("the public methods", seen, FACE);
        Check.due("the class", SpinHall.class.getModifiers(), Modifier.PUBLIC | Modifier.FINAL);
        for (Constructor<?> constructor : SpinHall.class.getDeclaredConstructors()) {
            Check.due("the constructor", constructor.toString(), "public SpinHall()");
        }
        for (Field field : SpinHall.class.getDeclaredFields()) {
            Check.due(field + " is private", Modifier.isPrivate(field.getModifiers()), true);
        }
        for (Class<?> inside : SpinHall.class.getDeclaredClasses()) {
            Check.due(inside + " is static", Modifier.isStatic(inside.getModifiers()), true);
            for (Method method : inside.getDeclaredMethods()) {
                hidden.add(method.getName());
            }
        }
        for (String call : FACE) {
            String name = call.substring(call.indexOf(' ') + 1, call.indexOf('('));
            Check.due("another method named " + name, hidden.contains(name), false);
        }
        Check.end();
    }

    /** The methods of the document's "The public face". */
    private static Set<String> told(String document) {
        String face = document.substring(document.indexOf("public final class SpinHall"), document.indexOf("## Terms"));
        Matcher methods = Pattern.compile("public (\\w+ \\w+)\\(([^)]*)\\)(?: throws ([^;]*))?;").matcher(face);
        Set<String> told = new TreeSet<>();
        while (methods.find()) {
            String kinds = methods.group(2).replaceAll(" \\w+(, |$)", ",").replaceAll(",$", "");
            String[] exceptions = methods.group(3) == null ? new String[0] : methods.group(3).split(", ");
            told.add(line(methods.group(1) + "(" + kinds + ")", exceptions));
        }
        return told;
    }

    private static String line(String call, String... exceptions) {
        return call + " throws " + Arrays.toString(exceptions);
    }

    private static String parameters(Method method) {
        return Arrays.stream(method.getParameterTypes()).map(Class::getName).collect(Collectors.joining(",", "(", ")"));
    }

    private static String[] names(Class<?>[] classes) {
        return Arrays.stream(classes).map(Class::getSimpleName).toArray(String[]::new);
    }
}
