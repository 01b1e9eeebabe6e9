import java.lang.reflect.InvocationTargetException;
import java.lang.reflect.Method;
import java.util.ArrayList;
import java.util.List;
import java.util.function.UnaryOperator;

/**
 * Runs of calls written as text, a call a line: "lock 0 = 1", "clear =", "down 9 = throws.IndexOutOfBoundsException".
 * An empty line, or what stands behind a #, is passed over.
 */
final class Runs {
    private static final List<String> QUESTIONS = questions();

    private int wrong = 0;

    /** Runs the calls on a new core of so many locks, counters and boxes, and prints what is not as due. */
    void run(String name, int locks, int counters, int boxes, String calls) {
        Room room = new Room(locks, counters, boxes);
        PriorityCore core = room.core(List.of());
        List<String> all = new ArrayList<>();
        List<String> done = new ArrayList<>();
        for (String line : linesOf(calls)) {
            String call = callOf(line);
            String answer = answer(core, call);
            due(name + ": " + call, answer, answerOf(line));
            all.add(call);
            if (!answer.startsWith("throws.")) {
                done.add(call);
            }
        }
        if (done.size() < all.size()) {
            due(name + ": the state without the calls that throw", room.shownBehind(all), room.shownBehind(done));
        }
    }

    /** Each of the refused calls alone, behind the first ones: it answers as due, and has changed nothing. */
    void refused(String name, int locks, int counters, int boxes, String first, String refused) {
        run(name, locks, counters, boxes, first);
        Room room = new Room(locks, counters, boxes);
        List<String> before = new ArrayList<>();
        for (String line : linesOf(first)) {
            before.add(callOf(line));
        }
        String unchanged = room.shownBehind(before);
        for (String line : linesOf(refused)) {
            String call = callOf(line);
            due(name + ": " + call, answer(room.core(before), call), answerOf(line));
            List<String> with = new ArrayList<>(before);
            with.add(call);
            due(name + ": the state behind " + call, room.shownBehind(with), unchanged);
        }
    }

    void due(String what, String got, String want) {
        if (!got.equals(want)) {
            wrong++;
            System.out.println(what + " answered " + got + ", due is " + want);
        }
    }

    /** Says how it went, and ends the program with 1 if an answer was wrong. */
    void finish() {
        System.out.println(wrong == 0 ? "all answers are as due" : wrong + " answers are not as due");
        if (wrong != 0) {
            System.exit(1);
        }
    }

    /** The answer as text: a number, nothing for a call without one, or the name of what was thrown. */
    static String answer(PriorityCore core, String call) {
        String[] parts = call.split(" +");
        Object[] numbers = new Object[parts.length - 1];
        Class<?>[] types = new Class<?>[numbers.length];
        for (int i = 0; i < numbers.length; i++) {
            numbers[i] = Integer.valueOf(parts[i + 1]);
            types[i] = int.class;
        }
        try {
            Method method = PriorityCore.class.getMethod(parts[0], types);
            Object answer = method.invoke(core, numbers);
            return answer == null ? "" : answer.toString();
        } catch (InvocationTargetException thrown) {
            return "throws." + thrown.getCause().getClass().getSimpleName();
        } catch (ReflectiveOperationException missing) {
            throw new IllegalArgumentException("no such call: " + call, missing);
        }
    }

    /** All that can be asked of a core; some 170 calls, so that a run of 340 stays within the document's 512. */
    static String snapshot(PriorityCore core) {
        return snapshot(call -> answer(core, call));
    }

    /** The same of whatever answers such calls. */
    static String snapshot(UnaryOperator<String> asked) {
        StringBuilder all = new StringBuilder();
        for (String call : QUESTIONS) {
            all.append(call).append('=').append(asked.apply(call)).append("; ");
        }
        return all.toString();
    }

    private static List<String> questions() {
        List<String> calls = new ArrayList<>();
        calls.add("running");
        for (int task = 0; task < 16; task++) {
            for (int what = 0; what < 7; what++) {
                calls.add("told " + task + " " + what);
            }
        }
        for (int k = 0; k < 8; k++) {
            calls.add("owner " + k);
            calls.add("count " + k);
            calls.add("words " + k);
            for (int kind = 2; kind < 6; kind++) {
                calls.add("first " + kind + " " + k);
            }
        }
        return calls;
    }

    /** So many locks, counters and boxes, from which cores are made alike. */
    private record Room(int locks, int counters, int boxes) {
        PriorityCore core(List<String> calls) {
            PriorityCore core = new PriorityCore(locks, counters, boxes);
            for (String call : calls) {
                answer(core, call);
            }
            return core;
        }

        /** What can be asked behind the calls, and what shows later; each of a new core, to stay within 512 calls. */
        String shownBehind(List<String> calls) {
            return snapshot(core(calls)) + "\n" + Aftermath.ofTheOrder(core(calls)) + "\n"
                    + Aftermath.ofTheBoxes(core(calls));
        }
    }

    private static String callOf(String line) {
        return line.substring(0, signIn(line)).trim();
    }

    private static String answerOf(String line) {
        return line.substring(signIn(line) + 1).trim();
    }

    private static int signIn(String line) {
        int sign = line.indexOf('=');
        if (sign < 0) {
            throw new IllegalArgumentException("a line without an answer: " + line);
        }
        return sign;
    }

    private static List<String> linesOf(String calls) {
        List<String> lines = new ArrayList<>();
        for (String raw : calls.split("\n")) {
            int note = raw.indexOf('#');
            String line = (note < 0 ? raw : raw.substring(0, note)).trim();
            if (!line.isEmpty()) {
                lines.add(line);
            }
        }
        return lines;
    }
}
