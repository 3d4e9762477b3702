import java.io.IOException;
import java.nio.file.Files;
import java.nio.file.Path;
import java.util.regex.Matcher;
import java.util.regex.Pattern;

/** Some rules of LANGUAGE.md that can be read off the program's text. */
final class LanguageTest {
    private static final String[] RULED_OUT = {
        "->", "::", "\\btry\\b", "\\bcatch\\b", "\\bfinally\\b", "\\bsynchronized\\b", "\\bassert\\b", "\\bvar\\b",
        "\\bnative\\b", "\\bvolatile\\b", "\\bSystem\\.(?!arraycopy)", "Exact\\b", "\\bObject\\b", "\\bequals\\s*\\(",
        "\\bhashCode\\b", "\\btoString\\b", "\\bThread\\b", "\\bRandom\\b", "@", "\\bpackage\\b", "\\bthis::",
        "\\bprotected\\b", "\\bwhile\\s*\\(\\s*true", "[^\\x00-\\x7f]", "Math\\.(?!abs|min|max|floorDiv|floorMod)"
    };

    public static void main(String[] args) throws IOException {
        String text = Files.readString(Path.of("src/main/java/SpinHall.java"));
        String code = text.replaceAll("(?s)/\\*.*?\\*/", "").replaceAll("//[^\n]*", "");
        for (String sign : RULED_OUT) {
            Check.due(sign + " stands in the program", Pattern.compile(sign).matcher(code).find(), false);
        }
        Matcher imports = Pattern.compile("import [^;]*;").matcher(code);
        while (imports.find()) {
            Check.due("an import", imports.group(), "import java.util.NoSuchElementException;");
        }
        Matcher statics = Pattern.compile("static (?!final)[^(;]*[;=]").matcher(code);
        Check.due("a static field that is not final", statics.find(), false);
        Check.end();
    }
}
