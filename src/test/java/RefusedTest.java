/**
 * The document's sentences on exceptions: which one is due, which one of several, and that a call that throws changes
 * nothing. A test's name is the sentence that it holds the class to.
 */
public final class RefusedTest {
    private static final Runs RUNS = new Runs();
    private static final String NO_INDEX = " = throws.IndexOutOfBoundsException\n";
    private static final String NO_STATE = " = throws.IllegalStateException\n";
    private static final String NO_ARGUMENT = " = throws.IllegalArgumentException\n";

    /** Tasks in every state, of many priorities alike; 0 runs, 13 to 15 are free; three of each kind. */
    private static final String ALL_STATES = """
        create 0 5 = 0
        lock 0 = 0
        create 1 6 = 1
        lock 1 = 0
        lock 0 = 1
        create 2 7 = 2
        lock 1 = 1
        create 3 8 = 3
        down 0 = 1
        create 4 8 = 4
        down 0 = 1
        create 5 8 = 5
        send 0 51 = 0
        send 0 52 = 0
        send 0 53 = 0
        send 0 54 = 0
        send 0 55 = 1
        create 6 8 = 6
        send 0 66 = 1
        create 7 8 = 7
        receive 1 = 1
        create 8 8 = 8
        receive 1 = 1
        create 9 8 = 9
        sleep 5 = 0
        create 10 8 = 10
        sleep 5 = 0
        create 11 7 = 0
        create 12 7 = 0
        up 1 = -1
        """;
    private static final String ALL_ASLEEP = ALL_STATES + "sleep 7 = 11\n sleep 8 = 12\n sleep 9 = -1\n";

    public static void main(String[] args) {
        noSuchThing();
        noneThatIsTold();
        noTaskRuns();
        noTaskRunsAmongMany();
        createOfOneThatIsNotFree();
        priorityOfOneThatIsFree();
        lockThatItOwns();
        lockRings();
        lockWithoutARing();
        unlockOfWhatItDoesNotOwn();
        endOfAnOwner();
        moreThanThereMayBe();
        theFirstOfSeveral();
        RUNS.finish();
    }

    private static void noSuchThing() {
        String all = "";
        for (String call : new String[] {"create K 5", "priority K 5", "told K 0", "told K 6"}) {
            all += call.replace("K", "-1") + NO_INDEX + call.replace("K", "16") + NO_INDEX;
        }
        String[] ofThree = {
            "lock K", "unlock K", "owner K", "first 2 K", "down K", "up K", "count K", "first 3 K",
            "send K 9", "receive K", "words K", "first 4 K", "first 5 K",
        };
        for (String call : ofThree) {
            all += call.replace("K", "-1") + NO_INDEX + call.replace("K", "3") + NO_INDEX;
        }
        RUNS.refused("IndexOutOfBounds: there is no such task, lock, counter, box", 3, 3, 3, ALL_STATES, all);
        RUNS.refused("IndexOutOfBounds, while no task runs", 3, 3, 3, ALL_ASLEEP, all);
        RUNS.refused("IndexOutOfBounds, on a new object", 3, 3, 3, "", all);
    }

    private static void noneThatIsTold() {
        String[] calls = {
            "create 13 0", "create 13 256", "priority 0 0", "priority 0 256", "priority 2 0", "priority 2 256",
            "tick -1", "tick 1001", "told 0 -1", "told 0 7", "told 13 -1", "told 13 7", "first 1 0", "first 6 0",
        };
        String all = String.join(NO_ARGUMENT, calls) + NO_ARGUMENT;
        RUNS.refused("IllegalArgument: another number is none that is told", 3, 3, 3,
                ALL_STATES, all + "sleep 0" + NO_ARGUMENT + "sleep 1001" + NO_ARGUMENT);
        RUNS.refused("IllegalArgument, while no task runs", 3, 3, 3, ALL_ASLEEP, all);
    }

    private static void noTaskRuns() {
        String all = "";
        for (String call : new String[] {"lock 0", "unlock 0", "down 0", "send 0 9", "receive 0", "sleep 1", "end"}) {
            all += call + NO_STATE;
        }
        String name = "IllegalState: no task runs: ";
        RUNS.refused(name + "a new object", 1, 1, 1, "", all);
        RUNS.refused(name + "all have ended", 1, 1, 1, "create 0 5 = 0\n end = -1\n", all);
        RUNS.refused(name + "behind clear", 1, 1, 1, "create 0 5 = 0\n lock 0 = 0\n clear =\n", all);
        RUNS.refused(name + "it sleeps", 1, 1, 1, "create 0 5 = 0\n sleep 3 = -1\n", all);
        RUNS.refused(name + "it sleeps, and owns the lock", 1, 1, 1,
                "create 0 5 = 0\n lock 0 = 0\n sleep 3 = -1\n", all);
        RUNS.refused(name + "it waits for a counter", 1, 1, 1, "create 0 5 = 0\n down 0 = 1\n", all);
        RUNS.refused(name + "two wait for a counter", 1, 1, 1,
                "create 0 5 = 0\n create 1 5 = 0\n down 0 = 1\n down 0 = 1\n", all);
        RUNS.refused(name + "it waits to receive", 1, 1, 1, "create 0 5 = 0\n receive 0 = 1\n", all);
        RUNS.refused(name + "it waits to send", 1, 1, 1,
                "create 0 5 = 0\n send 0 1 = 0\n send 0 2 = 0\n send 0 3 = 0\n send 0 4 = 0\n send 0 5 = 1\n", all);
        RUNS.refused(name + "it waits for a lock", 1, 1, 1,
                "create 0 5 = 0\n lock 0 = 0\n sleep 3 = -1\n create 1 5 = 1\n lock 0 = 1\n", all);
    }

    /** Of each kind one with which the call could go on, if there were a task to do it. */
    private static void noTaskRunsAmongMany() {
        String all = "";
        for (int k = 0; k < 3; k++) {
            for (String call : new String[] {"lock K", "unlock K", "down K", "send K 9", "receive K"}) {
                all += call.replace("K", "" + k) + NO_STATE;
            }
        }
        all += "sleep 1" + NO_STATE + "sleep 1000" + NO_STATE + "end" + NO_STATE;
        RUNS.refused("IllegalState: no task runs, but many are there", 3, 3, 3, ALL_ASLEEP, all);
        RUNS.run("up, tick, create and priority need no task that runs", 3, 3, 3, ALL_ASLEEP + """
            up 1 = -1
            up 2 = -1
            priority 9 9 = 8
            tick 1 = 0
            up 0 = 3
            running = 3
            clear =
            create 4 4 = 4
            """);
    }

    private static void createOfOneThatIsNotFree() {
        String all = "";
        for (int task = 0; task <= 12; task++) {
            all += "create " + task + " 1" + NO_STATE + "create " + task + " 255" + NO_STATE;
        }
        RUNS.refused("create: IllegalState: it is not free", 3, 3, 3, ALL_STATES, all);
        RUNS.run("create: IllegalState: it is not free: these are", 3, 3, 3,
                ALL_STATES + "create 13 1 = 0\n create 15 255 = 15\n end = 0\n create 15 255 = 15\n");
    }

    private static void priorityOfOneThatIsFree() {
        String free = "priority 13 1" + NO_STATE + "priority 14 255" + NO_STATE + "priority 15 5" + NO_STATE;
        RUNS.refused("priority: IllegalState: it is free", 3, 3, 3, ALL_STATES, free);
        RUNS.refused("priority: IllegalState: it is free, by end", 0, 0, 0,
                "create 13 5 = 13\n end = -1\n create 0 5 = 0\n", free);
        RUNS.refused("priority: IllegalState: it is free, by clear", 0, 0, 0,
                "create 13 5 = 13\n create 14 5 = 13\n create 15 5 = 13\n clear =\n", free);
        String calls = ALL_STATES;
        int[] bases = {5, 6, 7, 8, 8, 8, 8, 8, 8, 8, 8, 7, 7};
        for (int task = 0; task <= 12; task++) {
            calls += "priority " + task + " 9 = " + bases[task] + "\n told " + task + " 1 = 9\n";
        }
        RUNS.run("priority: IllegalState: it is free: these are not", 3, 3, 3, calls);
    }

    private static void lockThatItOwns() {
        RUNS.refused("lock: IllegalArgument: the task owns it", 2, 0, 0,
                "create 0 5 = 0\n lock 0 = 0\n lock 1 = 0\n", "lock 0" + NO_ARGUMENT + "lock 1" + NO_ARGUMENT);
        RUNS.refused("lock: IllegalArgument: the task owns it, and others wait", 2, 0, 0,
                "create 0 5 = 0\n lock 0 = 0\n create 1 6 = 1\n lock 0 = 1\n", "lock 0" + NO_ARGUMENT);
        RUNS.refused("lock: IllegalArgument: the task owns it, or its owner waits, among many", 3, 3, 3,
                ALL_STATES, "lock 0" + NO_ARGUMENT + "lock 1" + NO_ARGUMENT);
        RUNS.refused("lock: IllegalArgument: the task owns it, by another's unlock", 2, 0, 0,
                "create 0 5 = 0\n lock 0 = 0\n create 1 6 = 1\n lock 0 = 1\n unlock 0 = 1\n running = 1\n",
                "lock 0" + NO_ARGUMENT);
        RUNS.run("lock: IllegalArgument: the task owns it: not any more", 1, 0, 0,
                "create 0 5 = 0\n lock 0 = 0\n unlock 0 = -1\n lock 0 = 0\n");
    }

    /** Task i owns lock i, and waits for lock i - 1; so the first may wait for none of them. */
    private static void lockRings() {
        for (int many = 2; many <= 8; many++) {
            for (int turn = 0; turn < 2; turn++) {
                StringBuilder first = new StringBuilder();
                StringBuilder refused = new StringBuilder();
                for (int i = 0; i < many; i++) {
                    int task = turn == 0 ? i : 15 - i;
                    first.append("create " + task + " " + (i + 1) + " = " + task + "\n lock " + i + " = 0\n");
                    if (i > 0) {
                        first.append("lock " + (i - 1) + " = 1\n");
                    }
                    refused.append("lock " + i + NO_ARGUMENT);
                }
                first.append("running = " + (turn == 0 ? 0 : 15) + "\n");
                RUNS.refused("lock: its owner waits, for a lock whose owner waits, and so on: " + many, 8, 0, 0,
                        first.toString(), refused.toString());
            }
        }
    }

    private static void lockWithoutARing() {
        String chain = """
            create 0 1 = 0
            lock 0 = 0
            create 1 2 = 1
            lock 1 = 0
            lock 0 = 1
            create 2 3 = 2
            lock 2 = 0
            lock 1 = 1
            """;
        RUNS.run("lock: IllegalArgument, and so on, for one that the task owns: it owns another", 4, 1, 1, chain + """
            create 3 4 = 3
            lock 3 = 0            # one for which nobody waits
            lock 2 = 1            # the chain ends with a task that is ready
            told 0 2 = 4
            running = 0
            lock 3 = throws.IllegalArgumentException
            """);
        String owner = "create 0 5 = 0\n create 1 4 = 0\n lock 0 = 0\n";
        String other = "lock 1 = 0\n lock 0 = 1\n told 1 0 = 2\n owner 0 = 0\n running = -1\n";
        String name = "lock: its owner waits, but for no lock: ";
        RUNS.run(name + "sleep", 2, 1, 1, owner + "sleep 5 = 1\n" + other);
        RUNS.run(name + "counter", 2, 1, 1, owner + "down 0 = 1\n" + other);
        RUNS.run(name + "to receive", 2, 1, 1, owner + "receive 0 = 1\n" + other);
        RUNS.run(name + "to send", 2, 1, 1, owner
                + "send 0 1 = 0\n send 0 2 = 0\n send 0 3 = 0\n send 0 4 = 0\n send 0 5 = 1\n" + other);
        // The owner waits for a counter or box of the number that the task's own lock has.
        RUNS.run(name + "something of the lock's number", 2, 2, 2, """
            create 0 5 = 0
            create 1 4 = 0
            lock 0 = 0
            down 1 = 1
            lock 1 = 0
            lock 0 = 1
            """);
    }

    private static void unlockOfWhatItDoesNotOwn() {
        String name = "unlock: IllegalArgument: the task does not own it: ";
        RUNS.refused(name + "nobody, or another one, does", 3, 3, 3, ALL_STATES,
                "unlock 1" + NO_ARGUMENT + "unlock 2" + NO_ARGUMENT);
        RUNS.refused(name + "not any more", 2, 0, 0, "create 0 5 = 0\n lock 0 = 0\n unlock 0 = -1\n",
                "unlock 0" + NO_ARGUMENT + "unlock 1" + NO_ARGUMENT);
        RUNS.refused(name + "it has passed it on", 1, 0, 0, """
            create 0 5 = 0
            create 1 5 = 0
            lock 0 = 0
            priority 1 6 = 5
            lock 0 = 1
            priority 1 5 = 6
            unlock 0 = 1
            running = 0
            """, "unlock 0" + NO_ARGUMENT);
        RUNS.refused(name + "the owner sleeps", 1, 0, 0,
                "create 0 5 = 0\n lock 0 = 0\n create 1 4 = 0\n sleep 2 = 1\n", "unlock 0" + NO_ARGUMENT);
        RUNS.refused(name + "task 0, and no owner", 1, 0, 0, "create 0 5 = 0\n", "unlock 0" + NO_ARGUMENT);
    }

    private static void endOfAnOwner() {
        String name = "end: IllegalArgument: it owns a lock: ";
        for (int lock = 0; lock < 8; lock++) {
            RUNS.refused(name + lock, 8, 0, 0, "create 0 5 = 0\n lock " + lock + " = 0\n", "end" + NO_ARGUMENT);
        }
        RUNS.refused(name + "one of two is left", 8, 0, 0,
                "create 0 5 = 0\n lock 3 = 0\n lock 7 = 0\n unlock 3 = -1\n", "end" + NO_ARGUMENT);
        RUNS.refused(name + "by another's unlock", 8, 0, 0,
                "create 0 5 = 0\n lock 3 = 0\n create 1 6 = 1\n lock 3 = 1\n unlock 3 = 1\n", "end" + NO_ARGUMENT);
        RUNS.refused(name + "others wait", 3, 3, 3, ALL_STATES, "end" + NO_ARGUMENT);
        RUNS.run(name + "others do", 8, 0, 0, """
            create 0 5 = 0
            lock 0 = 0
            create 1 6 = 1
            end = 0               # it owns none itself
            unlock 0 = -1
            end = -1
            """);
    }

    /** 512 calls do not bring a counter there: this goes on beyond them, to see the guard all the same. */
    private static void moreThanThereMayBe() {
        RUNS.refused("UnsupportedOperation: there would be more than there may be", 3, 3, 3,
                ALL_STATES + "up 2 = -1\n".repeat(1000) + "count 2 = 1000\n",
                "up 2 = throws.UnsupportedOperationException\n");
        RUNS.run("UnsupportedOperation: there would be more: another counter has room", 3, 3, 3,
                ALL_STATES + "up 2 = -1\n".repeat(1000) + "up 1 = -1\n up 0 = 3\n down 2 = 0\n up 2 = -1\n");
    }

    private static void theFirstOfSeveral() {
        String name = "Of several that a call names, the first one: ";
        String none = "";
        for (String call : new String[] {"lock", "unlock", "down", "receive"}) {
            none += call + " -1" + NO_INDEX + call + " 3" + NO_INDEX;
        }
        none += "send -1 9" + NO_INDEX + "send 3 9" + NO_INDEX;
        RUNS.refused(name + "no such thing, and no task runs", 3, 3, 3, "", none);
        RUNS.refused(name + "no such thing, and no task runs among many", 3, 3, 3, ALL_ASLEEP, none);
        RUNS.refused(name + "no task runs, and a number that is none", 3, 3, 3, ALL_ASLEEP,
                "sleep 0" + NO_STATE + "sleep 1001" + NO_STATE + "sleep -1" + NO_STATE);
        RUNS.refused(name + "no task runs, and the lock is another's or nobody's", 3, 3, 3, ALL_ASLEEP,
                "unlock 0" + NO_STATE + "unlock 2" + NO_STATE);
        String tasks = "";
        for (int wrong : new int[] {-1, 0, 256}) {
            tasks += "create -1 " + wrong + NO_INDEX + "create 16 " + wrong + NO_INDEX
                    + "priority -1 " + wrong + NO_INDEX + "priority 16 " + wrong + NO_INDEX;
            // The priority comes before the state.
            tasks += "create 0 " + wrong + NO_ARGUMENT + "create 9 " + wrong + NO_ARGUMENT
                    + "priority 13 " + wrong + NO_ARGUMENT;
        }
        RUNS.refused(name + "create, priority", 3, 3, 3, ALL_STATES, tasks);
        RUNS.refused(name + "told", 3, 3, 3, ALL_STATES,
                "told -1 -1" + NO_INDEX + "told -1 7" + NO_INDEX + "told 16 -1" + NO_INDEX + "told 16 7" + NO_INDEX);
        RUNS.refused(name + "first, whose kind comes before", 3, 3, 3, ALL_STATES,
                "first 1 -1" + NO_ARGUMENT + "first 1 3" + NO_ARGUMENT + "first 6 -1" + NO_ARGUMENT
                + "first 6 3" + NO_ARGUMENT + "first 0 9" + NO_ARGUMENT + "first -1 -1" + NO_ARGUMENT);
    }
}
