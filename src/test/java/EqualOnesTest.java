/**
 * The document's sentences on who comes first: by effective priority, "of equal ones that with the least stamp", in
 * every place where one of several is taken. A test's name is the sentence that it holds the class to.
 */
public final class EqualOnesTest {
    private static final Runs RUNS = new Runs();
    private static final String FULL_BOX = "send 0 1 = 0\n send 0 2 = 0\n send 0 3 = 0\n send 0 4 = 0\n";

    public static void main(String[] args) {
        runsTheGreatest();
        runsTheLeastStamp();
        stampFromWhenItBecameReady();
        stampStaysOtherwise();
        stampFromWhenItBeganToWait();
        firstIsTheGreatest();
        firstByWhatWasPassedOn();
        firstOfEqualEffectiveOnes();
        effectiveIsTheGreatest();
        effectiveOfSeveralWaiters();
        effectiveAtTheEnds();
        effectiveFromLocksAlone();
        effectiveSinks();
        RUNS.finish();
    }

    private static void runsTheGreatest() {
        RUNS.run("It RUNS the ready task with the greatest effective priority", 0, 0, 0, """
            create 5 100 = 5
            create 0 99 = 5
            create 15 101 = 15
            create 1 1 = 15
            create 2 255 = 2
            create 3 254 = 2
            sleep 9 = 3
            sleep 9 = 15
            sleep 9 = 5
            sleep 9 = 0
            sleep 9 = 1
            sleep 9 = -1
            """);
    }

    private static void runsTheLeastStamp() {
        int[] order = {9, 3, 15, 0, 8, 1, 14, 7};
        StringBuilder calls = new StringBuilder();
        for (int task : order) {
            calls.append("create " + task + " 5 = 9\n running = 9\n");
        }
        for (int i = 0; i < order.length; i++) {
            calls.append("running = " + order[i] + "\n end = " + (i + 1 < order.length ? order[i + 1] : -1) + "\n");
        }
        RUNS.run("It RUNS, of equal ones, that with the least stamp", 0, 0, 0, calls.toString());
    }

    /** In each run 0 becomes ready again while 1 and 2 are: it is the last of the three. */
    private static void stampFromWhenItBecameReady() {
        String three = "create 0 5 = 0\n create 1 5 = 0\n create 2 5 = 0\n";
        String last = "running = 1\n sleep 9 = 2\n sleep 9 = 0\n sleep 9 = -1\n";
        String name = "It has a STAMP from when it became ready: ";
        RUNS.run(name + "by up", 1, 1, 1, three + "down 0 = 1\n up 0 = 0\n" + last);
        RUNS.run(name + "by send", 1, 1, 1, three + "receive 0 = 1\n send 0 7 = 0\n" + last);
        RUNS.run(name + "by receive", 1, 1, 1, three + FULL_BOX + "send 0 5 = 1\n receive 0 = 0\n" + last);
        RUNS.run(name + "by tick", 1, 1, 1, three + "sleep 1 = 1\n tick 1 = 1\n" + last);
        RUNS.run(name + "by create", 1, 1, 1, three + "end = 1\n create 0 5 = 1\n" + last);
        RUNS.run(name + "by unlock", 1, 1, 1, """
            create 1 5 = 1
            lock 0 = 0
            create 0 6 = 0
            lock 0 = 1
            priority 0 5 = 6
            create 2 5 = 1
            unlock 0 = 0
            """ + last);
    }

    /** None of these makes a task ready, or lets it wait: 0 came before 1, and stays before it. */
    private static void stampStaysOtherwise() {
        RUNS.run("It has a STAMP from when it became ready, or began to wait: else it stays", 1, 1, 2, """
            create 0 5 = 0
            create 1 5 = 0
            lock 0 = 0
            running = 0
            unlock 0 = -1
            running = 0
            up 0 = -1
            down 0 = 0
            running = 0
            send 0 1 = 0
            running = 0
            receive 0 = 0
            running = 0
            create 2 9 = 2        # it is overtaken
            receive 1 = 1
            running = 0
            send 1 3 = 0          # by 0; the receiver runs
            running = 2
            end = 0
            priority 0 9 = 5
            priority 0 1 = 9
            running = 1
            priority 0 5 = 1
            running = 0
            priority 1 9 = 5
            priority 1 5 = 9
            running = 0
            tick 1000 = 0
            running = 0
            """);
        RUNS.run("It has a STAMP from when it began to wait: else it stays", 1, 1, 0, """
            create 0 5 = 0
            create 1 5 = 0
            create 2 1 = 0
            lock 0 = 0
            down 0 = 1
            down 0 = 1
            first 3 0 = 0
            priority 0 4 = 5
            first 3 0 = 1
            priority 0 5 = 4
            first 3 0 = 0
            running = 2
            lock 0 = 1            # 0 owns what another waits for
            first 3 0 = 0
            tick 1000 = 0
            first 3 0 = 0
            """);
    }

    /** They were made ready in the order 0, 1, 2, and begin to wait in the order 2, 1, 0. */
    private static void stampFromWhenItBeganToWait() {
        String name = "FIRST of those that wait, of equal ones the least stamp: ";
        RUNS.run(name + "counter", 1, 1, 1, "create 3 1 = 3\n" + waitBackwards("down 0") + """
            first 3 0 = 2
            up 0 = 2
            first 3 0 = 1
            up 0 = 1
            first 3 0 = 0
            up 0 = 0
            first 3 0 = -1
            """);
        RUNS.run(name + "lock", 1, 1, 1, "create 3 1 = 3\n lock 0 = 0\n" + waitBackwards("lock 0") + """
            first 2 0 = 2
            unlock 0 = 2
            first 2 0 = 1
            running = 2
            unlock 0 = 1
            first 2 0 = 0
            sleep 9 = 1
            unlock 0 = 0
            first 2 0 = -1
            """);
        RUNS.run(name + "to receive", 1, 1, 1, "create 3 1 = 3\n" + waitBackwards("receive 0") + """
            first 5 0 = 2
            send 0 71 = 0
            first 5 0 = 1
            send 0 72 = 0
            first 5 0 = 0
            send 0 73 = 0
            first 5 0 = -1
            told 2 5 = 71
            told 1 5 = 72
            told 0 5 = 73
            """);
        RUNS.run(name + "to send", 1, 1, 1, "create 3 1 = 3\n" + FULL_BOX + waitBackwards("send 0 9") + """
            first 4 0 = 2
            receive 0 = 0
            first 4 0 = 1
            receive 0 = 0
            first 4 0 = 0
            receive 0 = 0
            first 4 0 = -1
            """);
    }

    private static String waitBackwards(String wait) {
        String calls = "create 0 5 = 0\n create 1 5 = 0\n create 2 5 = 0\n";
        for (int task = 2; task >= 0; task--) {
            calls += "priority " + task + " 9 = 5\n running = " + task + "\n " + wait + " = 1\n"
                    + "priority " + task + " 5 = 9\n";
        }
        return calls;
    }

    /** 1 comes between the others and has the greatest priority; then 2 has it, who came last. */
    private static void firstIsTheGreatest() {
        String name = "FIRST of those that wait for something is that with the greatest effective priority: ";
        RUNS.run(name + "lock", 1, 1, 1, "create 3 1 = 3\n lock 0 = 0\n" + waitingThree("lock 0", 2)
                + "unlock 0 = 2\n told 2 0 = 1\n told 1 0 = 2\n told 0 0 = 2\n");
        RUNS.run(name + "counter", 1, 1, 1, "create 3 1 = 3\n" + waitingThree("down 0", 3)
                + "up 0 = 2\n told 2 0 = 1\n told 1 0 = 3\n told 0 0 = 3\n");
        RUNS.run(name + "to send", 1, 1, 1, "create 3 1 = 3\n" + FULL_BOX + waitingThree("send 0 9", 4)
                + "receive 0 = 0\n told 2 0 = 1\n told 1 0 = 4\n told 0 0 = 4\n");
        RUNS.run(name + "to receive", 1, 1, 1, "create 3 1 = 3\n" + waitingThree("receive 0", 5)
                + "send 0 9 = 0\n told 2 0 = 1\n told 1 0 = 5\n told 0 0 = 5\n");
    }

    private static String waitingThree(String wait, int kind) {
        return """
            create 0 10 = 0
            WAIT = 1
            FIRST = 0
            create 1 20 = 1
            WAIT = 1
            FIRST = 1
            create 2 19 = RUNS
            priority 2 30 = 19
            running = 2
            WAIT = 1
            FIRST = 2
            priority 2 19 = 30
            FIRST = 1
            priority 2 20 = 19
            FIRST = 1             # equal ones
            priority 2 21 = 20
            FIRST = 2
            """.replace("RUNS", kind == 2 ? "3" : "2")
                .replace("WAIT", wait).replace("FIRST", "first " + kind + " 0");
    }

    /** 0 waits with a small base, but owns a lock for which 2 waits with a great one. */
    private static void firstByWhatWasPassedOn() {
        String name = "FIRST is that with the greatest effective priority, not base: ";
        RUNS.run(name + "lock", 2, 1, 1, "create 3 1 = 3\n lock 1 = 0\n" + passedOn("lock 1", 2)
                + "unlock 1 = 0\n running = 0\n told 1 0 = 2\n");
        RUNS.run(name + "counter", 2, 1, 1, "create 3 1 = 3\n" + passedOn("down 0", 3)
                + "up 0 = 0\n running = 0\n told 1 0 = 3\n");
        RUNS.run(name + "to send", 2, 1, 1, "create 3 1 = 3\n" + FULL_BOX + passedOn("send 0 9", 4)
                + "receive 0 = 0\n running = 0\n told 1 0 = 4\n");
        RUNS.run(name + "to receive", 2, 1, 1, "create 3 1 = 3\n" + passedOn("receive 0", 5)
                + "send 0 9 = 0\n running = 0\n told 0 5 = 9\n told 1 0 = 5\n");
    }

    private static String passedOn(String wait, int kind) {
        String first = "first " + kind + (kind == 2 ? " 1" : " 0");
        return """
            create 0 3 = 0
            lock 0 = 0
            WAIT = 1
            create 1 5 = 1
            WAIT = 1
            FIRST = 1
            create 2 8 = 2
            lock 0 = 1
            told 0 1 = 3
            told 0 2 = 8
            FIRST = 0
            running = 3
            """.replace("WAIT", wait).replace("FIRST", first);
    }

    private static void firstOfEqualEffectiveOnes() {
        RUNS.run("FIRST, of equal ones the least stamp: one has its priority from another", 1, 1, 0, """
            create 1 5 = 1
            create 0 3 = 1
            down 0 = 1            # 1 began first
            lock 0 = 0
            down 0 = 1            # 0 came behind it
            create 2 5 = 2
            lock 0 = 1
            told 0 2 = 5
            first 3 0 = 1
            priority 2 6 = 5
            first 3 0 = 0
            priority 2 5 = 6
            first 3 0 = 1
            up 0 = 1
            up 0 = 0
            running = 1
            """);
        RUNS.run("It RUNS, of equal ones, that with the least stamp: one has its priority from another", 1, 0, 0, """
            create 0 3 = 0
            lock 0 = 0
            create 1 5 = 1
            create 2 5 = 1
            lock 0 = 1
            running = 0           # 5 as 2 has, and ready before it
            told 0 2 = 5
            unlock 0 = 1
            running = 2           # 1 is ready again, behind 2
            end = 1
            unlock 0 = -1
            end = 0
            """);
    }

    private static void effectiveIsTheGreatest() {
        RUNS.run("the greatest of its base and of the effective ones of all that wait", 1, 0, 0, """
            create 0 9 = 0
            lock 0 = 0
            create 1 5 = 0
            sleep 3 = 1
            lock 0 = 1
            told 0 2 = 9          # the waiter's is less
            told 1 2 = 5          # and gets nothing of the owner's
            priority 0 6 = 9
            told 0 2 = 6
            priority 0 5 = 6
            told 0 2 = 5          # they are equal
            priority 0 4 = 5
            told 0 2 = 5          # the waiter's is more
            told 0 1 = 4
            priority 1 4 = 5
            told 0 2 = 4
            priority 1 1 = 4
            told 0 2 = 4
            """);
    }

    private static void effectiveOfSeveralWaiters() {
        RUNS.run("of all that wait for locks that it owns", 8, 0, 0, """
            create 0 1 = 0
            lock 0 = 0
            lock 7 = 0
            create 1 20 = 1
            lock 7 = 1
            told 0 2 = 20
            create 2 30 = 2
            lock 0 = 1
            told 0 2 = 30
            create 3 25 = 0
            priority 3 40 = 25
            lock 0 = 1
            told 0 2 = 40
            priority 3 25 = 40
            told 0 2 = 30         # the greatest that is left
            priority 2 10 = 30
            told 0 2 = 25
            priority 3 10 = 25
            told 0 2 = 20         # of the other lock
            unlock 0 = 2
            told 0 2 = 20
            told 2 2 = 10         # what waits for the lock yet
            priority 3 60 = 10
            told 2 2 = 60         # is behind its owner now
            told 0 2 = 20
            """);
    }

    private static void effectiveAtTheEnds() {
        RUNS.run("BASE priority, 1 .. 255, and an EFFECTIVE one: the ends", 2, 0, 0, """
            create 0 1 = 0
            lock 0 = 0
            create 1 255 = 1
            lock 1 = 0
            lock 0 = 1
            told 0 2 = 255
            told 0 1 = 1
            create 2 255 = 0      # of equal ones the least stamp
            priority 1 1 = 255
            told 0 2 = 1
            running = 2
            lock 1 = 1
            told 1 2 = 255
            told 0 2 = 255
            priority 2 1 = 255
            told 1 2 = 1
            told 0 2 = 1
            running = 0
            """);
    }

    private static void effectiveFromLocksAlone() {
        RUNS.run("all that wait for locks: no other wait passes a priority on", 1, 1, 1, """
            create 0 1 = 0
            lock 0 = 0
            create 1 50 = 1
            down 0 = 1
            create 2 60 = 2
            receive 0 = 1
            create 3 70 = 3
            sleep 5 = 0
            told 0 2 = 1          # they wait for things of the same number
            create 4 80 = 4
            lock 0 = 1
            told 0 2 = 80
            told 1 2 = 50
            told 2 2 = 60
            told 3 2 = 70
            """);
        RUNS.run("all that wait for locks: to send", 1, 0, 1, """
            create 0 1 = 0
            lock 0 = 0
            create 1 50 = 1
            """ + FULL_BOX + """
            send 0 5 = 1
            told 0 2 = 1
            running = 0
            """);
        RUNS.run("along any chain, to one that waits for something else", 2, 1, 1, """
            create 0 1 = 0
            lock 0 = 0
            down 0 = 1
            create 1 2 = 1
            lock 1 = 0
            lock 0 = 1
            told 0 2 = 2
            create 2 9 = 2
            lock 1 = 1
            told 1 2 = 9
            told 0 2 = 9          # a waiter for a counter has it too
            running = -1
            up 0 = 0
            unlock 0 = 1
            told 0 2 = 1
            running = 1
            """);
    }

    private static void effectiveSinks() {
        RUNS.run("UNLOCK: what was passed on goes with those that waited", 2, 0, 0, """
            create 0 1 = 0
            lock 0 = 0
            lock 1 = 0
            create 1 8 = 1
            lock 0 = 1
            create 2 6 = 0
            priority 2 9 = 6
            lock 1 = 1
            priority 2 6 = 9
            create 3 7 = 0
            told 0 2 = 8
            running = 0
            unlock 0 = 1
            told 0 2 = 6
            running = 1
            unlock 0 = -1
            end = 3
            end = 0
            unlock 1 = 2
            told 0 2 = 1
            running = 2
            """);
    }
}
