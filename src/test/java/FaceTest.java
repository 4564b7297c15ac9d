import java.lang.reflect.Constructor;
import java.lang.reflect.Field;
import java.lang.reflect.Method;
import java.lang.reflect.Modifier;
import java.util.ArrayList;
import java.util.List;
import java.util.TreeSet;

/** The class has the document's face, and nothing else that is not private (LANGUAGE.md, rule 1). */
public final class FaceTest {
    private static final String[] FACE = {
        "int reel(int, int)", "int list(int, int)", "int tag(int, int)", "int share(int, int)", "int drop(int)",
        "int record(int, int, int)", "int cue(int, int, int)",
        "long at(int, boolean, int) throws ClassCastException NullPointerException ArrayIndexOutOfBoundsException",
        "int left(int, boolean, int, int)", "int loud(int, boolean, int)", "int number(int)",
        "int deck(int, int, int)", "int speed(int, int)", "int play(int, int)", "int finding()",
        "int seek(int, int, int)", "int mark(int, int, int)", "long frames(int, int)", "long cut(int, int, int)",
        "int stamp(int, int, int, long)", "long told(int, int)", "int ears(boolean, int)", "int ear(int, int, int)",
        "long hear(int)", "int count(int)", "int clear()"
    };

    private static String written(Method method) {
        List<String> types = new ArrayList<>();
        for (Class<?> type : method.getParameterTypes()) {
            types.add(type.getSimpleName());
        }
        StringBuilder text = new StringBuilder();
        text.append(method.getReturnType().getSimpleName()).append(' ').append(method.getName());
        text.append('(').append(String.join(", ", types)).append(')');
        String link = " throws ";
        for (Class<?> type : method.getExceptionTypes()) {
            text.append(link).append(type.getSimpleName());
            link = " ";
        }
        return text.toString();
    }

    private static void methods() {
        TreeSet<String> open = new TreeSet<>();
        TreeSet<String> names = new TreeSet<>();
        for (Method method : TapeDecks.class.getDeclaredMethods()) {
            if (!Modifier.isPrivate(method.getModifiers())) {
                open.add(written(method));
                names.add(method.getName());
                Due.holds(method + " is public and no more", method.getModifiers() == Modifier.PUBLIC);
            }
        }
        TreeSet<String> wanted = new TreeSet<>(List.of(FACE));
        Due.holds("methods " + open + " are those of the face", open.equals(wanted));
        for (Method method : TapeDecks.class.getDeclaredMethods()) {
            if (Modifier.isPrivate(method.getModifiers())) {
                Due.holds(method + " bears a name of its own", !names.contains(method.getName()));
            }
        }
    }

    private static void constants() {
        TreeSet<String> open = new TreeSet<>();
        for (Field field : TapeDecks.class.getDeclaredFields()) {
            int how = field.getModifiers();
            if (!Modifier.isPrivate(how)) {
                open.add(field.getType() + " " + field.getName());
                Due.holds(field.getName() + " is a public constant", how == (Modifier.PUBLIC | Modifier.STATIC | Modifier.FINAL));
            }
            Due.holds(field.getName() + ": a static field is final", !Modifier.isStatic(how) || Modifier.isFinal(how));
        }
        Due.holds("constants " + open, open.equals(new TreeSet<>(List.of("int UNKNOWN", "int OUTSIDE", "int FULL"))));
    }

    public static void main(String[] args) {
        Due.holds("the class is public and final",
                TapeDecks.class.getModifiers() == (Modifier.PUBLIC | Modifier.FINAL));
        Constructor<?>[] made = TapeDecks.class.getDeclaredConstructors();
        Due.holds("one public constructor without parameters",
                made.length == 1 && made[0].getModifiers() == Modifier.PUBLIC && made[0].getParameterCount() == 0);
        methods();
        constants();
        Due.end();
    }
}
