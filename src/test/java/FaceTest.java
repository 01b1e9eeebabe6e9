import java.lang.reflect.Constructor;
import java.lang.reflect.Field;
import java.lang.reflect.Method;
import java.lang.reflect.Modifier;
import java.util.Arrays;
import java.util.Set;
import java.util.TreeSet;

/** The class has the public face of the document, and shows nothing else. */
public final class FaceTest {
    private static final String[] FACE = {
        "final int NONE",
        "PriorityCore(int, int, int)",
        "int create(int, int) IndexOutOfBounds IllegalArgument IllegalState",
        "int priority(int, int) IndexOutOfBounds IllegalArgument IllegalState",
        "int lock(int) IndexOutOfBounds IllegalState IllegalArgument",
        "int unlock(int) IndexOutOfBounds IllegalState IllegalArgument",
        "int down(int) IndexOutOfBounds IllegalState",
        "int up(int) IndexOutOfBounds UnsupportedOperation",
        "int send(int, int) IndexOutOfBounds IllegalState",
        "int receive(int) IndexOutOfBounds IllegalState",
        "int sleep(int) IllegalState IllegalArgument",
        "int end() IllegalState IllegalArgument",
        "int tick(int) IllegalArgument",
        "int running()",
        "int told(int, int) IndexOutOfBounds IllegalArgument",
        "int owner(int) IndexOutOfBounds",
        "int count(int) IndexOutOfBounds",
        "int words(int) IndexOutOfBounds",
        "int first(int, int) IllegalArgument IndexOutOfBounds",
        "void clear()",
    };

    public static void main(String[] args) {
        Runs runs = new Runs();
        Class<PriorityCore> type = PriorityCore.class;
        runs.due("the class is public and final",
                Modifier.toString(type.getModifiers()), "public final");
        runs.due("NONE", String.valueOf(PriorityCore.NONE), "-1");
        Set<String> want = new TreeSet<>(Arrays.asList(FACE));
        runs.due("the members that are not private", shown(type).toString(), want.toString());
        runs.finish();
    }

    private static Set<String> shown(Class<?> type) {
        Set<String> shown = new TreeSet<>();
        for (Field field : type.getDeclaredFields()) {
            if (!Modifier.isPrivate(field.getModifiers())) {
                shown.add((Modifier.isFinal(field.getModifiers()) ? "final " : "")
                        + field.getType().getSimpleName() + " " + field.getName());
            }
        }
        for (Constructor<?> made : type.getDeclaredConstructors()) {
            if (!Modifier.isPrivate(made.getModifiers())) {
                shown.add(type.getSimpleName() + names(made.getParameterTypes()));
            }
        }
        for (Method method : type.getDeclaredMethods()) {
            if (!Modifier.isPrivate(method.getModifiers())) {
                shown.add(described(method));
            }
        }
        return shown;
    }

    private static String described(Method method) {
        StringBuilder text = new StringBuilder();
        text.append(method.getReturnType().getSimpleName()).append(' ').append(method.getName());
        text.append(names(method.getParameterTypes()));
        for (Class<?> thrown : method.getExceptionTypes()) {
            text.append(' ').append(thrown.getSimpleName().replace("Exception", ""));
        }
        return text.toString();
    }

    private static String names(Class<?>[] types) {
        StringBuilder text = new StringBuilder("(");
        for (Class<?> type : types) {
            text.append(text.length() > 1 ? ", " : "").append(type.getSimpleName());
        }
        return text.append(')').toString();
    }
}
