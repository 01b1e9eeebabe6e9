import java.util.Random;

/**
 * Long runs of mixed calls: each answer, and all that can be asked at the end, is that of the model. Two cores are
 * used by turns, for what is done with one must not be seen in another.
 */
public final class ModelTest {
    private static final int RUNS_OF_CALLS = 1500;
    // With the snapshot at the end a run stays within the document's 512 calls.
    private static final int CALLS = 340;

    private static final String[] DOING = {
        "create", "create", "create", "priority", "lock", "lock", "lock", "lock", "unlock", "unlock",
        "down", "down", "up", "up", "send", "send", "receive", "receive", "sleep", "end", "tick",
    };
    private static final String[] ASKING = {"running", "told", "told", "told", "owner", "count", "words", "first"};

    private final Runs runs = new Runs();
    private final Random random = new Random(20261115);
    private int tasks;
    private int priorities;
    private int ticks;

    public static void main(String[] args) {
        ModelTest test = new ModelTest();
        for (int run = 0; run < RUNS_OF_CALLS; run++) {
            test.oneRun(run);
        }
        test.runs.finish();
    }

    private void oneRun(int run) {
        tasks = 1 + random.nextInt(16);
        priorities = random.nextBoolean() ? 3 : 255;
        ticks = random.nextBoolean() ? 3 : 1000;
        Pair[] pairs = {anyPair(), anyPair()};
        for (int i = 0; i < CALLS; i++) {
            for (Pair pair : pairs) {
                String call = anyCall(pair.locks, pair.counters, pair.boxes);
                runs.due("run " + run + ", call " + i + ": " + call,
                        Runs.answer(pair.core, call), pair.model.answer(call));
            }
        }
        for (Pair pair : pairs) {
            runs.due("run " + run + ": the end", Runs.snapshot(pair.core), Runs.snapshot(pair.model::answer));
        }
    }

    private Pair anyPair() {
        return new Pair(random.nextInt(9), random.nextInt(4), random.nextInt(4));
    }

    /** A core and the model of it, of as many locks, counters and boxes. */
    private static final class Pair {
        final int locks;
        final int counters;
        final int boxes;
        final PriorityCore core;
        final Model model;

        Pair(int locks, int counters, int boxes) {
            this.locks = locks;
            this.counters = counters;
            this.boxes = boxes;
            core = new PriorityCore(locks, counters, boxes);
            model = new Model(locks, counters, boxes);
        }
    }

    private String anyCall(int locks, int counters, int boxes) {
        if (random.nextInt(1000) == 0) {
            return "clear";
        }
        String[] names = random.nextInt(4) == 0 ? ASKING : DOING;
        String name = names[random.nextInt(names.length)];
        switch (name) {
            case "create":
            case "priority":
                return name + " " + below(tasks, 16) + " " + number(1, priorities, 256);
            case "lock":
            case "unlock":
            case "owner":
                return name + " " + below(locks, locks);
            case "down":
            case "up":
            case "count":
                return name + " " + below(counters, counters);
            case "send":
                return name + " " + below(boxes, boxes) + " " + random.nextInt();
            case "receive":
            case "words":
                return name + " " + below(boxes, boxes);
            case "sleep":
                return name + " " + number(1, ticks, 1001);
            case "tick":
                return name + " " + number(0, ticks, 1001);
            case "told":
                return name + " " + below(16, 16) + " " + below(7, 7);
            case "first":
                return name + " " + number(2, 5, 6) + " " + below(Math.max(locks, boxes), 8);
            default:
                return name;
        }
    }

    /** Most of the time one of 0 .. many - 1; now and then one that lies beside what there is. */
    private int below(int many, int all) {
        if (many == 0 || random.nextInt(40) == 0) {
            return random.nextBoolean() ? -1 : all;
        }
        return random.nextInt(many);
    }

    private int number(int least, int most, int wrong) {
        if (random.nextInt(40) == 0) {
            return random.nextBoolean() ? least - 1 : wrong;
        }
        return least + random.nextInt(most - least + 1);
    }
}
