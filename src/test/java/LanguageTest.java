import java.io.IOException;
import java.lang.reflect.Constructor;
import java.lang.reflect.Executable;
import java.lang.reflect.Field;
import java.lang.reflect.Method;
import java.lang.reflect.Modifier;
import java.nio.file.Files;
import java.nio.file.Path;
import java.util.Set;
import java.util.regex.Matcher;
import java.util.regex.Pattern;

/**
 * What ../shared/LANGUAGE.md keeps out of the class, by a look at its text and at what is declared in it.
 * Run from the project's root.
 */
public final class LanguageTest {
    private static final String[] KEPT_OUT = {
        "%", "@", "->", "::", "\\bimport\\b", "\\bpackage\\b", "\\bcatch\\b", "\\bfinally\\b", "\\btry\\b", "\\bassert\\b",
        "\\bsynchronized\\b", "\\bvar\\b", "\\bprotected\\b", "\\b(Math|Double|Float|Object|System|Integer|Long|Thread)\\b",
        "\\bthrow (?!new (ClassCastException|NullPointerException|ArrayIndexOutOfBoundsException)\\(\\);)",
        "static (?!final|long|int|float|double|boolean|class)", "static final (float|double|String)\\b", "[^\\x00-\\x7F]"
    };
    private static final int LONGEST_METHOD = 60, MOST_CLASSES = 12, MOST_FIELDS = 20, MOST_PARAMETERS = 7;
    private static final Set<Class<?>> CONSTANTS = Set.of(int.class, long.class, boolean.class, char.class, String.class);

    private static String withoutComments(String text) {
        return text.replaceAll("(?s)/\\*.*?\\*/", "").replaceAll("//[^\n]*", "");
    }

    private static void methodsAreShort(String code) {
        int begun = -1;
        String[] lines = code.split("\n");
        for (int k = 0; k < lines.length; k++) {
            if (lines[k].matches("    (public|private) [^=;]*\\(.*") && !lines[k].contains(" class ")) {
                begun = k;
            } else if (lines[k].equals("    }") && begun >= 0) {
                Due.holds("short: " + lines[begun].trim(), k - begun < LONGEST_METHOD);
                begun = -1;
            }
        }
    }

    private static void fields(Class<?> owner) {
        int own = 0;
        for (Field field : owner.getDeclaredFields()) {
            if (Modifier.isStatic(field.getModifiers())) {
                Due.holds("rule 5: " + field, Modifier.isFinal(field.getModifiers()) && CONSTANTS.contains(field.getType()));
            } else {
                own++;
            }
        }
        Due.holds("rule 11: fields of " + owner, own <= MOST_FIELDS);
    }

    private static void parameters(Executable called) {
        Due.holds("rule 11: parameters of " + called, called.getParameterCount() <= MOST_PARAMETERS);
    }

    private static void classes() {
        Class<?>[] inside = TapeDecks.class.getDeclaredClasses();
        Due.holds("rule 11: classes", 1 + inside.length <= MOST_CLASSES);
        for (Class<?> one : inside) {
            Due.holds("rule 1: " + one + " is static and not open", Modifier.isStatic(one.getModifiers())
                    && !Modifier.isPublic(one.getModifiers()) && !Modifier.isProtected(one.getModifiers()));
            Due.is("rule 1: classes inside " + one, one.getDeclaredClasses().length, 0);
            declared(one);
        }
        declared(TapeDecks.class);
    }

    private static void declared(Class<?> owner) {
        fields(owner);
        for (Method method : owner.getDeclaredMethods()) {
            parameters(method);
        }
        for (Constructor<?> made : owner.getDeclaredConstructors()) {
            parameters(made);
        }
    }

    public static void main(String[] args) throws IOException {
        String code = withoutComments(Files.readString(Path.of("src/main/java/TapeDecks.java")));
        for (String kept : KEPT_OUT) {
            Matcher there = Pattern.compile(kept).matcher(code);
            Due.holds("'" + kept + "' is kept out", !there.find());
        }
        methodsAreShort(code);
        classes();
        Due.end();
    }
}
