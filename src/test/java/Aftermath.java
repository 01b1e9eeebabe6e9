/**
 * What no call tells, but later ones show: the order of coming, and the words that lie in the boxes or wait for them.
 * Each probe makes at most some 220 calls, and which they are depends on the answers alone.
 */
final class Aftermath {
    private static final int TASKS = 16;
    private static final int MOST_OF_A_KIND = 8;

    private final PriorityCore core;
    private final StringBuilder log = new StringBuilder();

    private Aftermath(PriorityCore core) {
        this.core = core;
    }

    /** All get one priority, so that the order of coming alone says who is next. */
    static String ofTheOrder(PriorityCore core) {
        Aftermath after = new Aftermath(core);
        after.setAllPriorities(100);
        for (int counter = 0; counter < MOST_OF_A_KIND; counter++) {
            after.wakeAllAt(counter);
        }
        after.ask("tick 1000");
        for (int turn = 0; turn < TASKS; turn++) {
            String task = after.ask("running");
            if (!isNumber(task)) {
                break;
            }
            after.giveUpLocksOf(task);
            after.ask("sleep 1000");
        }
        return after.log.toString();
    }

    /** One task takes all the words, and then hands one to each that waits to receive. */
    static String ofTheBoxes(PriorityCore core) {
        Aftermath after = new Aftermath(core);
        after.ask("tick 1000");
        after.setAllPriorities(1);
        String reader = after.reader();
        for (int box = 0; box < MOST_OF_A_KIND; box++) {
            after.empty(box, reader);
            after.feed(box);
        }
        return after.log.toString();
    }

    private String ask(String call) {
        String answer = Runs.answer(core, call);
        log.append(call).append('=').append(answer).append("; ");
        return answer;
    }

    private static boolean isNumber(String answer) {
        return !answer.equals("-1") && !answer.startsWith("throws.");
    }

    private void setAllPriorities(int priority) {
        for (int task = 0; task < TASKS; task++) {
            ask("priority " + task + " " + priority);
        }
    }

    private void wakeAllAt(int counter) {
        for (int i = 0; i <= TASKS; i++) {
            if (!isNumber(ask("up " + counter))) {
                return;
            }
        }
    }

    private void giveUpLocksOf(String task) {
        for (int lock = 0; lock < MOST_OF_A_KIND; lock++) {
            if (ask("owner " + lock).equals(task)) {
                ask("unlock " + lock);
            }
        }
    }

    private String reader() {
        for (int task = 0; task < TASKS; task++) {
            if (isNumber(ask("create " + task + " 255"))) {
                return "" + task;
            }
        }
        String task = ask("running");
        if (isNumber(task)) {
            ask("priority " + task + " 255");
        }
        return task;
    }

    private void empty(int box, String reader) {
        for (int i = 0; i < TASKS + 4; i++) {
            String words = ask("words " + box);
            if (!isNumber(words) || words.equals("0")) {
                return;
            }
            ask("receive " + box);
            ask("told " + reader + " 5");
        }
    }

    private void feed(int box) {
        for (int i = 0; i < TASKS; i++) {
            if (!isNumber(ask("first 5 " + box))) {
                return;
            }
            ask("send " + box + " " + (1000 + i));
        }
    }
}
