import java.io.IOException;
import java.lang.reflect.Executable;
import java.lang.reflect.Field;
import java.lang.reflect.Modifier;
import java.nio.file.Files;
import java.nio.file.Path;
import java.util.ArrayList;
import java.util.List;
import java.util.regex.Matcher;
import java.util.regex.Pattern;

/** Some rules of LANGUAGE.md that can be read off the program's text. */
final class LanguageTest {
    private static final String[] RULED_OUT = {
        "->", "::", "\\btry\\b", "\\bcatch\\b", "\\bfinally\\b", "\\bsynchronized\\b", "\\bassert\\b", "\\bvar\\b",
        "\\bnative\\b", "\\bvolatile\\b", "\\bSystem\\.(?!arraycopy)", "Exact\\b", "\\bObject\\b", "\\bequals\\s*\\(",
        "\\bhashCode\\b", "\\btoString\\b", "\\bThread\\b", "\\bRandom\\b", "@", "\\bpackage\\b", "\\bthis::",
        "\\bprotected\\b", "\\bwhile\\s*\\(\\s*true", "[^\\x00-\\x7f]", "Math\\.(?!abs|min|max|floorDiv|floorMod)"
    };

    public static void main(String[] args) throws IOException {
        String text = Files.readString(Path.of("src/main/java/SpinHall.java"));
        String code = text.replaceAll("(?s)/\\*.*?\\*/", "").replaceAll("//[^\n]*", "");
        for (String sign : RULED_OUT) {
            Check.due(sign + " stands in the program", Pattern.compile(sign).matcher(code).find(), false);
        }
        Matcher imports = Pattern.compile("import [^;]*;").matcher(code);
        while (imports.find()) {
            Check.due("an import", imports.group(), "import java.util.NoSuchElementException;");
        }
        Matcher statics = Pattern.compile("static (?!final)[^(;]*[;=]").matcher(code);
        Check.due("a static field that is not final", statics.find(), false);
        thrown(code);
        lengths(code);
        classes();
        Check.end();
    }

    /** Rule 6: exceptions of the list alone, with a written text or none. */
    private static void thrown(String code) {
        String listed = "(IllegalState|IllegalArgument|IndexOutOfBounds|Arithmetic|UnsupportedOperation|NoSuchElement)";
        String written = "throw new " + listed + "Exception\\((\"[^\"]*\")?\\);";
        Matcher thrown = Pattern.compile("throw .*").matcher(code);
        while (thrown.find()) {
            Check.due(thrown.group() + " is as rule 6 asks", thrown.group().matches(written), true);
        }
    }

    /** Rule 11: methods of some sixty lines at most; a method ends with a brace in the column of its head. */
    private static void lengths(String code) {
        String head = "(?m)^( {4}| {8})(?:public|private) (?!static final class)[^=;{]*\\{\\n";
        Matcher methods = Pattern.compile(head + "(?:\\1 .*\\n|\\n)*+\\1\\}").matcher(code);
        int count = 0;
        while (methods.find()) {
            long lines = methods.group().lines().count();
            Check.due("lines of " + methods.group().lines().findFirst(), lines <= 60, true);
            count++;
        }
        Check.due("methods are found", count > 48, true);
    }

    /** Rules 5 and 11: what classes hold, and how many there are. */
    private static void classes() {
        List<Class<?>> all = new ArrayList<>(List.of(SpinHall.class.getDeclaredClasses()));
        all.add(SpinHall.class);
        Check.due("at most twelve classes", all.size() <= 12, true);
        for (Class<?> one : all) {
            int kept = 0;
            for (Field field : one.getDeclaredFields()) {
                boolean isStatic = Modifier.isStatic(field.getModifiers());
                kept += isStatic ? 0 : 1;
                boolean isFinal = Modifier.isFinal(field.getModifiers());
                Check.due(field + " is final or not static", isFinal || !isStatic, true);
            }
            Check.due(one + " has at most twenty fields", kept <= 20, true);
            List<Executable> calls = new ArrayList<>(List.of(one.getDeclaredMethods()));
            calls.addAll(List.of(one.getDeclaredConstructors()));
            for (Executable call : calls) {
                Check.due(call + " has at most seven parameters", call.getParameterCount() <= 7, true);
            }
        }
    }
}
