import java.util.Arrays;

/**
 * The document's sentences that name numbers: the last that is allowed and the first that is not, on both sides.
 * A test's name is the sentence that it holds the class to.
 */
public final class NumbersTest {
    private static final Runs RUNS = new Runs();
    private static final String NO_INDEX = " = throws.IndexOutOfBoundsException\n";
    private static final String NO_ARGUMENT = " = throws.IllegalArgumentException\n";
    // Among them those whose last bits alone would be allowed.
    private static final int[] FAR = {
        Integer.MIN_VALUE, Integer.MIN_VALUE + 1, -65535, -255, 65536, 65537, Integer.MAX_VALUE
    };

    public static void main(String[] args) {
        tasks();
        sixteenTasks();
        eachNumberOfAKind();
        kindsAreCountedApart();
        createPriorities();
        otherPriorities();
        wordsAreInts();
        counterAtFirst();
        counterAtMost();
        sleepTicks();
        tickMany();
        whatIsTold();
        kinds();
        RUNS.finish();
    }

    private static void tasks() {
        String first = """
            create 0 5 = 0
            create 15 6 = 15
            priority 0 7 = 5
            priority 15 8 = 6
            told 0 1 = 7
            told 15 1 = 8
            """;
        StringBuilder refused = new StringBuilder();
        for (int task : withFar(-1, 16)) {
            refused.append("create " + task + " 5" + NO_INDEX);
            refused.append("priority " + task + " 5" + NO_INDEX);
            for (int what = 0; what < 7; what++) {
                refused.append("told " + task + " " + what + NO_INDEX);
            }
        }
        RUNS.refused("TASKS are 0 .. 15", 1, 1, 1, first, refused.toString());
    }

    private static void sixteenTasks() {
        StringBuilder first = new StringBuilder();
        StringBuilder refused = new StringBuilder();
        for (int task = 15; task >= 0; task--) {
            first.append("told " + task + " 0 = 0\n create " + task + " 5 = 15\n told " + task + " 0 = 1\n");
            refused.append("create " + task + " 5 = throws.IllegalStateException\n");
        }
        RUNS.refused("TASKS are 0 .. 15, all of them at once", 0, 0, 0, first.toString(), refused.toString());
        for (int task = 0; task < 16; task++) {
            RUNS.run("TASKS are 0 .. 15, each alone", 0, 0, 0,
                    "create " + task + " 5 = " + task + "\n running = " + task + "\n end = -1\n");
        }
    }

    private static void eachNumberOfAKind() {
        int[] asked = {0, 1, 2, 7, 8, 9, 10, 255, 256, Integer.MAX_VALUE, -1, -2, -8, -9, -256, Integer.MIN_VALUE};
        int[] had = {0, 1, 2, 7, 8, 8, 8, 8, 8, 8, 0, 0, 0, 0, 0, 0};
        for (int i = 0; i < asked.length; i++) {
            int many = had[i];
            RUNS.refused("another number counts as the nearest of these: " + asked[i] + " locks",
                    asked[i], 3, 4, allowed(many, 3, 4), outside(many, 3, 4));
            RUNS.refused("another number counts as the nearest of these: " + asked[i] + " counters",
                    3, asked[i], 4, allowed(3, many, 4), outside(3, many, 4));
            RUNS.refused("another number counts as the nearest of these: " + asked[i] + " boxes",
                    3, 4, asked[i], allowed(3, 4, many), outside(3, 4, many));
        }
    }

    private static String allowed(int locks, int counters, int boxes) {
        StringBuilder calls = new StringBuilder("create 0 5 = 0\n");
        for (int k = 0; k < locks; k++) {
            calls.append("lock K = 0\n owner K = 0\n first 2 K = -1\n unlock K = -1\n".replace("K", "" + k));
        }
        for (int k = 0; k < counters; k++) {
            calls.append("up K = -1\n count K = 1\n first 3 K = -1\n down K = 0\n".replace("K", "" + k));
        }
        for (int k = 0; k < boxes; k++) {
            calls.append("send K 7 = 0\n words K = 1\n first 4 K = -1\n first 5 K = -1\n receive K = 0\n"
                    .replace("K", "" + k));
        }
        return calls.toString();
    }

    private static String outside(int locks, int counters, int boxes) {
        StringBuilder calls = new StringBuilder();
        for (int k : withFar(-1, locks)) {
            for (String call : new String[] {"lock ", "unlock ", "owner ", "first 2 "}) {
                calls.append(call + k + NO_INDEX);
            }
        }
        for (int k : withFar(-1, counters)) {
            for (String call : new String[] {"up ", "down ", "count ", "first 3 "}) {
                calls.append(call + k + NO_INDEX);
            }
        }
        for (int k : withFar(-1, boxes)) {
            calls.append("send " + k + " 7" + NO_INDEX);
            for (String call : new String[] {"receive ", "words ", "first 4 ", "first 5 "}) {
                calls.append(call + k + NO_INDEX);
            }
        }
        return calls.toString();
    }

    private static void kindsAreCountedApart() {
        int[][] rooms = {{0, 0, 0}, {8, 0, 0}, {0, 8, 0}, {0, 0, 8}, {8, 8, 0}, {8, 0, 8}, {0, 8, 8}, {8, 8, 8}};
        for (int[] room : rooms) {
            RUNS.refused("LOCKS, COUNTERS and BOXES are as many as the core is made with",
                    room[0], room[1], room[2],
                    allowed(room[0], room[1], room[2]), outside(room[0], room[1], room[2]));
        }
    }

    private static void createPriorities() {
        String first = """
            create 0 1 = 0
            create 1 2 = 1
            create 2 254 = 2
            create 3 255 = 3
            told 0 1 = 1
            told 0 2 = 1
            told 1 1 = 2
            told 2 1 = 254
            told 3 1 = 255
            told 3 2 = 255
            """;
        StringBuilder refused = new StringBuilder();
        for (int priority : withFar(-1, 0, 256, 257, 511, 512)) {
            refused.append("create 4 " + priority + NO_ARGUMENT);
            refused.append("create 0 " + priority + NO_ARGUMENT);
        }
        RUNS.refused("create: the priority is not 1 .. 255", 0, 0, 0, first, refused.toString());
    }

    private static void otherPriorities() {
        String first = """
            create 0 100 = 0
            priority 0 1 = 100
            told 0 1 = 1
            told 0 2 = 1
            priority 0 2 = 1
            priority 0 255 = 2
            told 0 1 = 255
            told 0 2 = 255
            priority 0 254 = 255
            priority 0 254 = 254
            """;
        StringBuilder refused = new StringBuilder();
        for (int priority : withFar(-1, 0, 256, 257, 511, 512)) {
            refused.append("priority 0 " + priority + NO_ARGUMENT);
            refused.append("priority 1 " + priority + NO_ARGUMENT);
        }
        RUNS.refused("priority: IllegalArgument: the priority", 0, 0, 0, first, refused.toString());
    }

    private static void wordsAreInts() {
        int[] words = {Integer.MIN_VALUE, Integer.MIN_VALUE + 1, -65536, -1, 0, 1, 255, 65536, Integer.MAX_VALUE};
        for (int word : words) {
            RUNS.run("a box words, ints: " + word, 0, 0, 1, """
                create 0 5 = 0
                send 0 WORD = 0
                receive 0 = 0
                told 0 5 = WORD       # through the box
                create 1 9 = 1
                receive 0 = 1
                send 0 WORD = 0
                told 1 5 = WORD       # handed on
                send 0 7 = 0
                send 0 7 = 0
                send 0 7 = 0
                send 0 7 = 0
                send 0 WORD = 1
                priority 0 1 = 5
                receive 0 = 0         # by 0; 1 runs behind it
                told 0 5 = 7
                receive 0 = 0
                receive 0 = 0
                receive 0 = 0
                receive 0 = 0
                told 1 5 = WORD       # of a task that waited to send
                """.replace("WORD", "" + word));
        }
    }

    private static void counterAtFirst() {
        RUNS.run("a counter a number, at first 0", 0, 8, 0, """
            count 0 = 0
            count 7 = 0
            create 0 5 = 0
            down 7 = 1            # so the first one waits
            count 7 = 0
            up 7 = 0
            count 7 = 0
            up 7 = -1
            count 7 = 1
            count 0 = 0
            """);
    }

    /** 512 calls do not bring a counter there: this goes on beyond them, to see the guard all the same. */
    private static void counterAtMost() {
        PriorityCore core = new PriorityCore(0, 2, 0);
        for (int i = 0; i < 1000; i++) {
            due(core, "count 1", "" + i);
            due(core, "up 1", "-1");
        }
        for (int i = 0; i < 3; i++) {
            due(core, "up 1", "throws.UnsupportedOperationException");
            due(core, "count 1", "1000");
        }
        due(core, "up 0", "-1");
        due(core, "create 0 5", "0");
        due(core, "down 1", "0");
        due(core, "count 1", "999");
        due(core, "up 1", "-1");
        due(core, "up 1", "throws.UnsupportedOperationException");
        due(core, "running", "0");
    }

    private static void due(PriorityCore core, String call, String want) {
        RUNS.due("UnsupportedOperation: the counter would be above 1000: " + call, Runs.answer(core, call), want);
    }

    private static void sleepTicks() {
        String refused = each("sleep", withFar(-1000, -1, 0, 1001, 1002, 2000));
        RUNS.refused("sleep: ticks are not 1 .. 1000", 0, 0, 0, "create 0 5 = 0\n create 1 4 = 0\n", refused);
        for (int ticks : new int[] {1, 2, 255, 256, 999, 1000}) {
            RUNS.run("sleep: ticks are not 1 .. 1000: these are", 0, 0, 0,
                    "create 0 5 = 0\n create 1 4 = 0\n sleep " + ticks + " = 1\n told 0 4 = " + ticks
                    + "\n tick " + (ticks - 1) + " = 0\n told 0 4 = 1\n told 0 0 = 6\n running = 1\n"
                    + "tick 1 = 1\n told 0 4 = 0\n told 0 0 = 1\n running = 0\n");
        }
    }

    private static void tickMany() {
        String first = """
            create 0 5 = 0
            create 1 5 = 0
            create 2 5 = 0
            sleep 1000 = 1
            sleep 999 = 2
            sleep 1 = -1
            tick 0 = 0
            told 2 4 = 1
            """;
        String refused = each("tick", withFar(-1000, -1, 1001, 1002, 2000));
        RUNS.refused("tick: they are not 0 .. 1000", 0, 0, 0, first, refused);
        RUNS.refused("tick: they are not 0 .. 1000, while nobody sleeps", 0, 0, 0, "tick 0 = 0\n", refused);
        RUNS.run("tick: 0 .. 1000", 0, 0, 0, first + "tick 1 = 1\n told 0 4 = 999\n told 1 4 = 998\n");
        RUNS.run("tick: 0 .. 1000", 0, 0, 0, first + "tick 998 = 1\n told 0 4 = 2\n told 1 4 = 1\n");
        RUNS.run("tick: 0 .. 1000", 0, 0, 0, first + "tick 999 = 2\n told 0 4 = 1\n told 1 4 = 0\n");
        RUNS.run("tick: 0 .. 1000", 0, 0, 0, first + "tick 1000 = 3\n told 0 4 = 0\n tick 1000 = 0\n");
    }

    private static void whatIsTold() {
        StringBuilder refused = new StringBuilder();
        for (int what : withFar(-2, -1, 7, 8)) {
            refused.append("told 0 " + what + NO_ARGUMENT);      // one that is ready
            refused.append("told 15 " + what + NO_ARGUMENT);     // one that is free
        }
        RUNS.refused("IllegalArgument: another number is none that is told", 1, 1, 1, """
            create 0 5 = 0
            lock 0 = 0
            told 0 0 = 1
            told 0 1 = 5
            told 0 2 = 5
            told 0 3 = -1
            told 0 4 = 0
            told 0 5 = 0
            told 0 6 = 1
            told 15 0 = 0
            told 15 1 = 0
            told 15 2 = 0
            told 15 3 = -1
            told 15 4 = 0
            told 15 5 = 0
            told 15 6 = 0
            """, refused.toString());
    }

    private static void kinds() {
        StringBuilder refused = new StringBuilder();
        for (int kind : withFar(-1, 0, 1, 6, 7)) {
            refused.append("first " + kind + " 0" + NO_ARGUMENT);
            refused.append("first " + kind + " 1" + NO_ARGUMENT);
            refused.append("first " + kind + " -1" + NO_ARGUMENT);
        }
        RUNS.refused("first: IllegalArgument: the kind", 1, 1, 1, """
            create 0 5 = 0
            sleep 9 = -1
            create 1 5 = 1
            first 2 0 = -1
            first 3 0 = -1
            first 4 0 = -1
            first 5 0 = -1
            """, refused.toString());
    }

    private static int[] withFar(int... near) {
        int[] all = Arrays.copyOf(near, near.length + FAR.length);
        System.arraycopy(FAR, 0, all, near.length, FAR.length);
        return all;
    }

    private static String each(String name, int[] numbers) {
        StringBuilder calls = new StringBuilder();
        for (int number : numbers) {
            calls.append(name + " " + number + NO_ARGUMENT);
        }
        return calls.toString();
    }
}
