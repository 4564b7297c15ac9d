import java.io.IOException;
import java.nio.file.Files;
import java.nio.file.Path;
import java.util.regex.Matcher;
import java.util.regex.Pattern;

/** What ../shared/LANGUAGE.md keeps out of the class and a look at its text can find. Run from the project's root. */
public final class LanguageTest {
    private static final String[] KEPT_OUT = {
        "%", "@", "->", "::", "\\bimport\\b", "\\bpackage\\b", "\\bcatch\\b", "\\bfinally\\b", "\\btry\\b", "\\bassert\\b",
        "\\bsynchronized\\b", "\\bvar\\b", "\\bprotected\\b", "\\b(Math|Double|Float|Object|System|Integer|Long|Thread)\\b",
        "\\bthrow (?!new (ClassCastException|NullPointerException|ArrayIndexOutOfBoundsException)\\(\\);)",
        "static (?!final|long|int|float|double|boolean|class)", "static final (float|double|String)\\b", "[^\\x00-\\x7F]"
    };
    private static final int LONGEST_METHOD = 60;

    private static String withoutComments(String text) {
        return text.replaceAll("(?s)/\\*.*?\\*/", "").replaceAll("//[^\n]*", "");
    }

    private static void methodsAreShort(String code) {
        int begun = -1;
        String[] lines = code.split("\n");
        for (int k = 0; k < lines.length; k++) {
            if (lines[k].matches("    (public|private) [^=;]*\\(.*") && !lines[k].contains(" class ")) {
                begun = k;
            } else if (lines[k].equals("    }") && begun >= 0) {
                Due.holds("short: " + lines[begun].trim(), k - begun < LONGEST_METHOD);
                begun = -1;
            }
        }
    }

    public static void main(String[] args) throws IOException {
        String code = withoutComments(Files.readString(Path.of("src/main/java/TapeDecks.java")));
        for (String kept : KEPT_OUT) {
            Matcher there = Pattern.compile(kept).matcher(code);
            Due.holds("'" + kept + "' is kept out", !there.find());
        }
        methodsAreShort(code);
        Due.end();
    }
}
