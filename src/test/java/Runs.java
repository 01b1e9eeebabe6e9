import java.lang.reflect.InvocationTargetException;
import java.lang.reflect.Method;
import java.util.ArrayList;
import java.util.List;
import java.util.function.UnaryOperator;

/**
 * Runs of calls written as text, a call a line: "lock 0 = 1", "clear =", "down 9 = throws.IndexOutOfBoundsException".
 * An empty line, or what stands behind a #, is passed over.
 */
final class Runs {
    private static final List<String> QUESTIONS = questions();

    private int wrong = 0;

    /** Runs the calls on a new core of so many locks, counters and boxes, and prints what is not as due. */
    void run(String name, int locks, int counters, int boxes, String calls) {
        PriorityCore core = new PriorityCore(locks, counters, boxes);
        List<String> done = new ArrayList<>();
        for (String line : linesOf(calls)) {
            int sign = line.indexOf('=');
            if (sign < 0) {
                throw new IllegalArgumentException("a line without an answer: " + line);
            }
            String call = line.substring(0, sign).trim();
            String answer = answer(core, call);
            due(name + ": " + call, answer, line.substring(sign + 1).trim());
            if (!answer.startsWith("throws.")) {
                done.add(call);
            }
        }
        checkThatThrowingChangedNothing(name, core, new PriorityCore(locks, counters, boxes), done);
    }

    void due(String what, String got, String want) {
        if (!got.equals(want)) {
            wrong++;
            System.out.println(what + " answered " + got + ", due is " + want);
        }
    }

    /** Says how it went, and ends the program with 1 if an answer was wrong. */
    void finish() {
        System.out.println(wrong == 0 ? "all answers are as due" : wrong + " answers are not as due");
        if (wrong != 0) {
            System.exit(1);
        }
    }

    /** The answer as text: a number, nothing for a call without one, or the name of what was thrown. */
    static String answer(PriorityCore core, String call) {
        String[] parts = call.split(" +");
        Object[] numbers = new Object[parts.length - 1];
        Class<?>[] types = new Class<?>[numbers.length];
        for (int i = 0; i < numbers.length; i++) {
            numbers[i] = Integer.valueOf(parts[i + 1]);
            types[i] = int.class;
        }
        try {
            Method method = PriorityCore.class.getMethod(parts[0], types);
            Object answer = method.invoke(core, numbers);
            return answer == null ? "" : answer.toString();
        } catch (InvocationTargetException thrown) {
            return "throws." + thrown.getCause().getClass().getSimpleName();
        } catch (ReflectiveOperationException missing) {
            throw new IllegalArgumentException("no such call: " + call, missing);
        }
    }

    /** All that can be asked of a core; some 170 calls, so that a run of 340 stays within the document's 512. */
    static String snapshot(PriorityCore core) {
        return snapshot(call -> answer(core, call));
    }

    /** The same of whatever answers such calls. */
    static String snapshot(UnaryOperator<String> asked) {
        StringBuilder all = new StringBuilder();
        for (String call : QUESTIONS) {
            all.append(call).append('=').append(asked.apply(call)).append("; ");
        }
        return all.toString();
    }

    private static List<String> questions() {
        List<String> calls = new ArrayList<>();
        calls.add("running");
        for (int task = 0; task < 16; task++) {
            for (int what = 0; what < 7; what++) {
                calls.add("told " + task + " " + what);
            }
        }
        for (int k = 0; k < 8; k++) {
            calls.add("owner " + k);
            calls.add("count " + k);
            calls.add("words " + k);
            for (int kind = 2; kind < 6; kind++) {
                calls.add("first " + kind + " " + k);
            }
        }
        return calls;
    }

    private void checkThatThrowingChangedNothing(
            String name, PriorityCore core, PriorityCore fresh, List<String> done) {
        for (String call : done) {
            answer(fresh, call);
        }
        due(name + ": the state without the calls that throw", snapshot(core), snapshot(fresh));
    }

    private static List<String> linesOf(String calls) {
        List<String> lines = new ArrayList<>();
        for (String raw : calls.split("\n")) {
            int note = raw.indexOf('#');
            String line = (note < 0 ? raw : raw.substring(0, note)).trim();
            if (!line.isEmpty()) {
                lines.add(line);
            }
        }
        return lines;
    }
}
