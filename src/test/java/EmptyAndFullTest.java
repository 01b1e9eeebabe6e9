/**
 * The document's sentences on what is empty, full, or not there: no owner, nobody that waits, a counter at 0, a box
 * without room or without a word, the last tick. A test's name is the sentence that it holds the class to.
 */
public final class EmptyAndFullTest {
    private static final Runs RUNS = new Runs();

    public static void main(String[] args) {
        allAreFreeAtFirst();
        noneRuns();
        lockWithoutOwner();
        lockWithOwner();
        unlockWithWaiters();
        unlockWithoutWaiters();
        downAboveZero();
        downAtZero();
        upWithWaiters();
        upWithoutWaiters();
        sendToReceivers();
        sendIntoTheBox();
        sendToAFullBox();
        receiveFromTheBox();
        receiveFromAFullBox();
        receiveFromAnEmptyBox();
        boxGoesRoundAndRound();
        boxesAreApart();
        sleepsSoManyTicks();
        leastTaskOfOneTick();
        ticksBeforeOneAnother();
        endOfTheLast();
        toldOfThoseWithout();
        gotLast();
        clearOfTheFullest();
        RUNS.finish();
    }

    private static void allAreFreeAtFirst() {
        StringBuilder calls = new StringBuilder();
        for (int task = 0; task < 16; task++) {
            for (int what = 0; what < 7; what++) {
                calls.append("told " + task + " " + what + " = " + (what == 3 ? -1 : 0) + "\n");
            }
        }
        String name = "all tasks are free, no lock has an owner, counters are 0, boxes are empty";
        for (int k = 0; k < 8; k++) {
            calls.append("owner K = -1\n count K = 0\n words K = 0\n".replace("K", "" + k));
            calls.append("first 2 K = -1\n first 3 K = -1\n first 4 K = -1\n first 5 K = -1\n".replace("K", "" + k));
        }
        RUNS.run(name, 8, 8, 8, calls.toString());
        RUNS.run("All is as at first: " + name, 8, 8, 8, """
            create 0 5 = 0
            lock 0 = 0
            send 0 1 = 0
            up 0 = -1
            create 15 9 = 15
            lock 0 = 1
            clear =
            """ + calls);
    }

    private static void noneRuns() {
        RUNS.run("none, if none is ready", 1, 1, 1, """
            running = -1
            create 0 5 = 0
            sleep 1 = -1
            running = -1          # asleep
            tick 1 = 1
            running = 0
            down 0 = 1
            running = -1          # waits for a counter
            up 0 = 0
            running = 0
            receive 0 = 1
            running = -1          # waits to receive
            clear =
            create 0 5 = 0
            send 0 1 = 0
            send 0 2 = 0
            send 0 3 = 0
            send 0 4 = 0
            running = 0
            send 0 5 = 1
            running = -1          # waits to send
            create 1 5 = 1
            lock 0 = 0
            sleep 1 = -1
            create 2 5 = 2
            lock 0 = 1
            running = -1          # waits for a lock
            create 3 5 = 3
            end = -1
            running = -1          # free
            """);
    }

    private static void lockWithoutOwner() {
        RUNS.run("LOCK: it has no owner: now it does", 8, 0, 0, """
            owner 0 = -1
            create 0 5 = 0
            lock 0 = 0
            owner 0 = 0
            owner 1 = -1
            told 0 0 = 1
            told 0 3 = -1
            told 0 6 = 1
            running = 0
            lock 1 = 0
            lock 2 = 0
            lock 3 = 0
            lock 4 = 0
            lock 5 = 0
            lock 6 = 0
            lock 7 = 0
            told 0 6 = 8          # all that there are
            owner 7 = 0
            unlock 7 = -1
            told 0 6 = 7
            create 1 6 = 1
            lock 7 = 0            # it has none again
            owner 7 = 1
            """);
    }

    private static void lockWithOwner() {
        RUNS.run("LOCK: Else the task waits for it", 2, 0, 0, """
            create 0 5 = 0
            lock 1 = 0
            create 1 5 = 0
            create 2 6 = 2
            lock 1 = 1
            told 2 0 = 2
            told 2 3 = 1
            told 2 6 = 0
            owner 1 = 0
            first 2 1 = 2
            first 2 0 = -1
            running = 0
            sleep 1 = 1
            lock 1 = 1            # of an owner that sleeps
            first 2 1 = 2
            running = -1          # the last that was ready
            """);
    }

    private static void unlockWithWaiters() {
        RUNS.run("UNLOCK: the first of those that wait for it owns it, and is ready", 2, 0, 0, """
            create 0 1 = 0
            lock 0 = 0
            lock 1 = 0
            create 1 5 = 1
            lock 0 = 1
            create 2 9 = 2
            lock 1 = 1            # for the other lock, with a greater priority
            create 3 7 = 0
            priority 0 8 = 1
            priority 3 10 = 7
            lock 0 = 1
            running = 0
            first 2 0 = 3
            unlock 0 = 3
            owner 0 = 3
            told 3 0 = 1
            told 3 3 = -1
            told 3 6 = 1
            told 0 6 = 1
            told 1 0 = 2          # not the first: it waits on
            told 1 3 = 0
            told 2 0 = 2
            first 2 0 = 1
            running = 3
            unlock 0 = 1
            owner 0 = 1
            told 1 0 = 1
            first 2 0 = -1
            told 2 0 = 2
            """);
    }

    private static void unlockWithoutWaiters() {
        RUNS.run("UNLOCK: without one it has no owner", 2, 1, 0, """
            create 0 5 = 0
            lock 0 = 0
            lock 1 = 0
            create 1 6 = 1
            lock 1 = 1
            unlock 0 = -1         # who waits, waits for another one
            owner 0 = -1
            told 0 6 = 1
            told 0 2 = 6
            told 1 0 = 2
            running = 0
            unlock 1 = 1
            running = 1
            unlock 1 = -1
            owner 1 = -1
            running = 1
            down 0 = 1            # one that waits for the counter of this number
            lock 0 = 0
            unlock 0 = -1
            told 1 0 = 3
            """);
    }

    private static void downAboveZero() {
        RUNS.run("DOWN: the counter is above 0: it is one less", 0, 2, 0, """
            create 0 5 = 0
            up 0 = -1
            up 0 = -1
            up 1 = -1
            down 0 = 0
            count 0 = 1
            down 0 = 0            # from 1
            count 0 = 0
            count 1 = 1
            told 0 0 = 1
            told 0 3 = -1
            running = 0
            """);
    }

    private static void downAtZero() {
        RUNS.run("DOWN: Else the task waits for it", 0, 2, 0, """
            create 0 5 = 0
            create 1 5 = 0
            up 1 = -1
            down 0 = 1            # the other one is above 0
            told 0 0 = 3
            told 0 3 = 0
            count 0 = 0           # not below
            first 3 0 = 0
            first 3 1 = -1
            running = 1
            down 1 = 0
            down 1 = 1
            count 1 = 0
            told 1 3 = 1
            running = -1
            """);
    }

    private static void upWithWaiters() {
        RUNS.run("UP (by anybody): the first of those that wait is ready", 0, 2, 0, """
            create 0 5 = 0
            create 1 7 = 1
            create 2 6 = 1
            create 3 9 = 3
            down 1 = 1            # 3, for the other counter
            down 0 = 1
            down 0 = 1
            down 0 = 1
            running = -1
            up 0 = 1              # though no task runs
            count 0 = 0
            told 1 0 = 1
            told 1 3 = -1
            told 0 0 = 3
            told 2 0 = 3
            told 3 0 = 3
            up 0 = 2
            up 0 = 0
            count 0 = 0
            up 0 = -1             # only now it is one more
            count 0 = 1
            told 3 0 = 3
            up 1 = 3
            count 1 = 0
            """);
    }

    private static void upWithoutWaiters() {
        RUNS.run("UP: without one the counter is one more", 2, 2, 2, """
            up 0 = -1
            count 0 = 1
            create 0 5 = 0
            up 0 = -1
            count 0 = 2
            lock 0 = 0
            create 1 6 = 1
            lock 0 = 1            # these wait, but for no counter
            create 2 7 = 2
            receive 0 = 1
            create 3 8 = 3
            sleep 1 = 0
            up 0 = -1
            count 0 = 3
            told 1 0 = 2
            told 2 0 = 5
            told 3 0 = 6
            """);
    }

    private static void sendToReceivers() {
        RUNS.run("SEND: if some wait to receive from the box, the first gets the word, and is ready", 0, 0, 2, """
            create 0 1 = 0
            create 1 5 = 1
            receive 0 = 1
            create 2 7 = 2
            receive 0 = 1
            create 3 9 = 3
            receive 1 = 1         # from the other box
            send 0 41 = 0
            words 0 = 0           # it never was in the box
            told 2 5 = 41
            told 2 0 = 1
            told 2 3 = -1
            told 1 5 = 0
            told 1 0 = 5
            told 3 5 = 0
            told 3 0 = 5
            running = 2
            first 5 0 = 1
            send 0 42 = 0
            told 1 5 = 42
            told 1 0 = 1
            told 2 5 = 41
            first 5 0 = -1
            send 0 43 = 0         # nobody waits any more
            words 0 = 1
            told 1 5 = 42
            """);
    }

    private static void sendIntoTheBox() {
        RUNS.run("SEND: Else the word comes behind those in the box", 0, 0, 1, """
            create 0 5 = 0
            send 0 11 = 0
            words 0 = 1
            send 0 12 = 0
            words 0 = 2
            send 0 13 = 0
            words 0 = 3
            send 0 14 = 0         # the last place
            words 0 = 4
            told 0 0 = 1
            running = 0
            receive 0 = 0
            told 0 5 = 11
            words 0 = 3
            send 0 15 = 0         # room again, behind the others
            words 0 = 4
            receive 0 = 0
            told 0 5 = 12
            receive 0 = 0
            told 0 5 = 13
            receive 0 = 0
            told 0 5 = 14
            receive 0 = 0
            told 0 5 = 15
            words 0 = 0
            """);
    }

    private static void sendToAFullBox() {
        RUNS.run("SEND: if it is full, the task waits, with the word", 0, 0, 2, """
            create 0 5 = 0
            send 1 11 = 0
            send 1 12 = 0
            send 1 13 = 0
            send 1 14 = 0
            create 1 5 = 0
            create 2 5 = 0
            send 1 15 = 1         # the first that has no place
            words 1 = 4
            told 0 0 = 4
            told 0 3 = 1
            first 4 1 = 0
            first 5 1 = -1
            first 4 0 = -1
            running = 1
            send 1 16 = 1
            words 1 = 4
            running = 2
            receive 1 = 0
            told 2 5 = 11
            receive 1 = 0
            told 2 5 = 12
            receive 1 = 0
            told 2 5 = 13
            receive 1 = 0
            told 2 5 = 14
            receive 1 = 0
            told 2 5 = 15         # its own word each
            receive 1 = 0
            told 2 5 = 16
            words 1 = 0
            """);
        RUNS.run("SEND: if it is full: a word that waited before is not sent again", 0, 0, 1, """
            create 0 5 = 0
            send 0 1 = 0
            send 0 2 = 0
            send 0 3 = 0
            send 0 4 = 0
            send 0 5 = 1
            create 1 1 = 1
            receive 0 = 0         # 5 comes in, 0 runs
            running = 0
            send 0 6 = 1
            receive 0 = 0         # 6 comes in, 0 runs
            receive 0 = 0
            told 0 5 = 3
            receive 0 = 0
            told 0 5 = 4
            receive 0 = 0
            told 0 5 = 5
            receive 0 = 0
            told 0 5 = 6
            words 0 = 0
            receive 0 = 1
            """);
    }

    private static void receiveFromTheBox() {
        RUNS.run("RECEIVE: the task gets the first word of the box", 0, 0, 1, """
            create 0 5 = 0
            send 0 21 = 0
            receive 0 = 0         # the only one
            told 0 5 = 21
            words 0 = 0
            told 0 0 = 1
            running = 0
            send 0 22 = 0
            send 0 23 = 0
            send 0 24 = 0
            send 0 25 = 0
            receive 0 = 0         # of a full box to which nobody waits to send
            told 0 5 = 22
            words 0 = 3
            running = 0
            """);
    }

    private static void receiveFromAFullBox() {
        RUNS.run("RECEIVE: the word of the first of these comes behind the others, and that is ready", 0, 0, 2, """
            create 0 9 = 0
            send 0 1 = 0
            send 0 2 = 0
            send 0 3 = 0
            send 0 4 = 0
            send 1 91 = 0
            send 1 92 = 0
            send 1 93 = 0
            send 1 94 = 0
            send 1 95 = 1         # waits at the other box
            create 1 5 = 1
            send 0 5 = 1
            create 2 6 = 2
            send 0 6 = 1
            create 3 1 = 3
            receive 0 = 0
            told 3 5 = 1
            told 2 0 = 1          # the first of those that wait
            told 2 3 = -1
            told 1 0 = 4
            told 0 0 = 4
            words 0 = 4           # full again
            running = 2
            receive 0 = 0         # by 2
            told 2 5 = 2
            told 1 0 = 1
            words 0 = 4
            first 4 0 = -1
            receive 0 = 0
            told 2 5 = 3
            words 0 = 3
            receive 0 = 0
            told 2 5 = 4
            receive 0 = 0
            told 2 5 = 6          # in the order in which they came in
            receive 0 = 0
            told 2 5 = 5
            words 0 = 0
            told 0 0 = 4
            words 1 = 4
            """);
    }

    private static void receiveFromAnEmptyBox() {
        RUNS.run("RECEIVE: If the box is empty, the task waits", 0, 0, 2, """
            create 0 5 = 0
            send 0 1 = 0
            receive 1 = 1         # the other one has a word
            told 0 0 = 5
            told 0 3 = 1
            told 0 5 = 0
            words 1 = 0
            first 5 1 = 0
            first 4 1 = -1
            first 5 0 = -1
            running = -1
            create 1 4 = 1
            receive 0 = 0
            receive 0 = 1         # it was the last word
            told 1 0 = 5
            told 1 3 = 0
            told 1 5 = 1
            running = -1
            """);
    }

    /** A box is filled and emptied at every place that its first word may have inside. */
    private static void boxGoesRoundAndRound() {
        for (int kept = 0; kept < 4; kept++) {
            StringBuilder calls = new StringBuilder("create 0 5 = 0\n");
            for (int i = 0; i < kept; i++) {
                calls.append("send 0 " + i + " = 0\n");
            }
            for (int i = 0; i < 50; i++) {
                calls.append("send 0 " + (kept + i) + " = 0\n receive 0 = 0\n told 0 5 = " + i + "\n");
                calls.append("words 0 = " + kept + "\n");
            }
            RUNS.run("a box words, four at most, in their order", 0, 0, 1, calls.toString());
        }
    }

    private static void boxesAreApart() {
        StringBuilder calls = new StringBuilder("create 0 5 = 0\n");
        for (int place = 0; place < 4; place++) {
            for (int box = 0; box < 8; box++) {
                calls.append("send " + box + " " + (10 * box + place) + " = 0\n");
            }
        }
        for (int box = 7; box >= 0; box--) {
            calls.append("words " + box + " = 4\n");
            for (int place = 0; place < 4; place++) {
                calls.append("receive " + box + " = 0\n told 0 5 = " + (10 * box + place) + "\n");
            }
            calls.append("words " + box + " = 0\n");
        }
        RUNS.run("a box words, four at most: all boxes full", 0, 0, 8, calls.toString());
    }

    private static void sleepsSoManyTicks() {
        RUNS.run("SLEEP: it is ready again behind so many ticks", 0, 0, 0, """
            create 0 5 = 0
            create 1 4 = 0
            tick 7 = 0            # before it slept
            sleep 3 = 1
            told 0 4 = 3
            tick 0 = 0
            told 0 4 = 3
            told 0 0 = 6
            tick 1 = 0
            tick 1 = 0
            told 0 4 = 1
            told 0 0 = 6
            running = 1
            tick 1 = 1
            told 0 4 = 0
            told 0 0 = 1
            running = 0
            tick 1 = 0            # it is ready once
            sleep 1 = 1
            tick 1000 = 1         # more than it needs
            told 0 4 = 0
            sleep 2 = 1           # what was too much is not kept
            told 0 4 = 2
            tick 1 = 0
            tick 1 = 1
            """);
    }

    private static void leastTaskOfOneTick() {
        RUNS.run("SLEEP: of one tick the least task first", 0, 0, 0, """
            create 15 5 = 15
            create 7 5 = 15
            create 0 5 = 15
            create 9 5 = 15
            sleep 4 = 7           # 15
            sleep 4 = 0           # 7
            tick 1 = 0
            sleep 3 = 9           # 0, of the same tick though it slept later
            tick 2 = 0
            sleep 1 = -1          # 9
            tick 1 = 4
            running = 0
            end = 7
            end = 9
            end = 15
            end = -1
            """);
        RUNS.run("SLEEP: of one tick the least task first, but by priority it runs", 0, 0, 0, """
            create 0 5 = 0
            create 1 6 = 1
            sleep 1 = 0
            sleep 1 = -1
            tick 1 = 2
            running = 1
            priority 1 5 = 6
            running = 0
            """);
    }

    private static void ticksBeforeOneAnother() {
        RUNS.run("tick: So many ticks go by: one behind the other", 0, 0, 0, """
            create 0 5 = 0
            create 1 5 = 0
            create 2 5 = 0
            create 3 5 = 0
            sleep 9 = 1
            sleep 8 = 2
            sleep 8 = 3
            sleep 1 = -1
            tick 9 = 4
            running = 3
            end = 1
            end = 2
            end = 0
            end = -1
            """);
        RUNS.run("tick: how many tasks were ready by them", 0, 1, 0, """
            create 0 5 = 0
            create 1 5 = 0
            create 2 5 = 0
            down 0 = 1            # waits, but does not sleep
            sleep 2 = 2
            tick 1000 = 1         # 2 was ready before
            told 0 0 = 3
            tick 1000 = 0
            """);
    }

    private static void endOfTheLast() {
        RUNS.run("end: The task that runs is free: which one runs then", 1, 0, 0, """
            create 0 5 = 0
            create 1 5 = 0
            create 2 6 = 2
            end = 0
            told 2 0 = 0
            told 2 1 = 0
            told 2 2 = 0
            told 0 0 = 1
            sleep 1 = 1
            end = -1              # the other one sleeps
            told 1 0 = 0
            told 0 0 = 6
            create 2 1 = 2        # it is free for another time
            told 2 1 = 1
            told 2 2 = 1
            end = -1
            """);
    }

    private static void toldOfThoseWithout() {
        RUNS.run("told: what it waits for (3; NONE without), ticks that it sleeps yet (4; 0)", 1, 1, 2, """
            told 0 3 = -1         # free
            create 0 5 = 0
            told 0 3 = -1         # ready
            told 0 4 = 0
            lock 0 = 0
            told 0 3 = -1
            sleep 2 = -1
            told 0 3 = -1         # asleep
            told 0 4 = 2
            create 1 5 = 1
            lock 0 = 1
            told 1 3 = 0
            told 1 4 = 0          # it waits, but does not sleep
            tick 1 = 0
            told 1 4 = 0
            told 0 4 = 1
            tick 1 = 1
            told 0 4 = 0
            unlock 0 = 1
            told 1 3 = -1
            down 0 = 1            # 0, that was ready before
            told 0 3 = 0
            told 0 4 = 0
            up 0 = 0
            told 0 3 = -1
            receive 1 = 1         # 1
            told 1 3 = 1
            told 1 4 = 0
            send 1 9 = 0
            told 1 3 = -1
            end = 1
            told 0 3 = -1
            """);
        RUNS.run("told: base and effective priority (both 0 if it is free)", 0, 0, 0, """
            told 3 1 = 0
            told 3 2 = 0
            create 3 255 = 3
            told 3 1 = 255
            told 3 2 = 255
            sleep 1 = -1
            told 3 1 = 255
            told 3 2 = 255
            tick 1 = 1
            end = -1
            told 3 1 = 0
            told 3 2 = 0
            """);
    }

    private static void gotLast() {
        RUNS.run("told: the word that it got last, since it was created", 0, 0, 1, """
            create 0 5 = 0
            told 0 5 = 0          # 0 before
            send 0 31 = 0
            told 0 5 = 0          # it has sent, not got
            receive 0 = 0
            told 0 5 = 31
            create 1 1 = 0
            receive 0 = 1
            told 0 5 = 31         # while it waits too
            send 0 32 = 0
            told 0 5 = 32
            told 1 5 = 0
            sleep 1 = 1
            told 0 5 = 32
            tick 1 = 1
            priority 0 9 = 5
            told 0 5 = 32
            end = 1
            told 0 5 = 0          # when it is free
            create 0 5 = 0
            told 0 5 = 0          # created another time
            """);
    }

    private static void clearOfTheFullest() {
        PriorityCore core = new PriorityCore(8, 8, 8);
        for (int k = 0; k < 8; k++) {
            String all = "create K 9; lock K; up K; send K 1; send K 2; send K 3; send K 4; receive K; send K 5; send K 6";
            for (String call : all.replace("K", "" + k).split("; ")) {
                Runs.answer(core, call);
            }
        }
        for (int k = 8; k < 16; k++) {
            Runs.answer(core, "create " + k + " 9");
            Runs.answer(core, k < 12 ? "lock " + (k - 8) : "sleep " + k);
        }
        Runs.answer(core, "clear");
        String fresh = Runs.snapshot(new PriorityCore(8, 8, 8));
        RUNS.due("clear: All is as at first", Runs.snapshot(core), fresh);
        for (int k = 0; k < 8; k++) {
            String all = "create K 9=0; lock K=0; unlock K=-1; send K 7=0; receive K=0; told 0 5=7; words K=0";
            for (String call : all.replace("K", "" + k).split("; ")) {
                String[] parts = call.split("=");
                RUNS.due("clear: All is as at first: " + parts[0], Runs.answer(core, parts[0]), parts[1]);
            }
        }
        RUNS.due("clear: nobody sleeps", Runs.answer(core, "tick 1000"), "0");
    }
}
