/** Promises 4, 5, 15 and 18: locks, who owns them, and who waits first. */
public final class LocksTest {
    private static final Runs RUNS = new Runs();

    public static void main(String[] args) {
        lock();
        lockThrows();
        lockRings();
        lockAlongAChain();
        chainOverAllLocks();
        everyTaskPassesOn();
        unlock();
        unlockThrows();
        owner();
        first();
        firstByEffectivePriority();
        firstThrows();
        RUNS.finish();
    }

    private static void lock() {
        RUNS.run("promise 4", 8, 0, 0, """
            create 0 5 = 0
            lock 0 = 0
            lock 7 = 0
            running = 0
            owner 0 = 0
            owner 7 = 0
            told 0 6 = 2
            create 1 6 = 1
            lock 0 = 1
            told 1 0 = 2
            told 1 3 = 0
            owner 0 = 0
            running = 0
            told 0 2 = 6
            create 2 7 = 2
            lock 7 = 1
            told 0 2 = 7
            told 0 1 = 5
            """);
    }

    private static void lockThrows() {
        RUNS.run("promise 4, throws", 2, 0, 0, """
            lock 0 = throws.IllegalStateException
            lock 2 = throws.IndexOutOfBoundsException
            lock -1 = throws.IndexOutOfBoundsException
            create 0 5 = 0
            lock 2 = throws.IndexOutOfBoundsException
            lock -1 = throws.IndexOutOfBoundsException
            lock 2147483647 = throws.IndexOutOfBoundsException
            lock 1 = 0
            lock 1 = throws.IllegalArgumentException
            owner 1 = 0
            running = 0
            sleep 1 = -1
            lock 1 = throws.IllegalStateException
            lock 2 = throws.IndexOutOfBoundsException
            """);
        RUNS.run("promise 4, no lock at all", 0, 1, 1, """
            lock 0 = throws.IndexOutOfBoundsException
            create 0 5 = 0
            lock 0 = throws.IndexOutOfBoundsException
            """);
    }

    private static void lockRings() {
        RUNS.run("promise 4, rings", 4, 1, 0, """
            create 0 1 = 0
            lock 0 = 0
            create 1 2 = 1
            lock 1 = 0
            lock 0 = 1
            lock 1 = throws.IllegalArgumentException     # a ring of two
            running = 0
            owner 1 = 1
            create 2 3 = 2
            lock 2 = 0
            lock 1 = 1
            lock 2 = throws.IllegalArgumentException     # a ring of three
            lock 3 = 0
            told 0 6 = 2
            create 3 9 = 3
            lock 2 = 1                                   # no ring: 3 owns nothing
            told 0 2 = 9
            """);
        RUNS.run("promise 4, the owner waits, but for no lock", 2, 1, 0, """
            create 0 1 = 0
            lock 0 = 0
            create 1 2 = 1
            lock 1 = 0
            down 0 = 1
            running = 0
            lock 1 = 1                                   # it waits for a counter: no ring
            running = -1
            told 1 2 = 2
            up 0 = 1
            lock 0 = throws.IllegalArgumentException     # now it would be one
            """);
        RUNS.run("promise 4, the owner sleeps", 2, 1, 0, """
            create 0 2 = 0
            create 1 1 = 0
            lock 0 = 0
            sleep 5 = 1
            lock 0 = 1
            told 0 4 = 5
            told 0 2 = 2
            """);
    }

    private static void lockAlongAChain() {
        RUNS.run("promise 4, several chains into one", 3, 0, 0, """
            create 0 1 = 0
            lock 0 = 0
            lock 1 = 0
            create 1 4 = 1
            lock 2 = 0
            lock 0 = 1
            told 0 2 = 4
            create 2 6 = 2
            lock 1 = 1
            told 0 2 = 6
            create 3 9 = 3
            lock 2 = 1
            told 1 2 = 9
            told 0 2 = 9
            told 2 2 = 6
            unlock 0 = 1
            told 0 2 = 6        # the other chain is passed on yet
            told 1 2 = 9
            running = 1
            unlock 2 = 3
            told 1 2 = 4
            running = 3
            end = throws.IllegalArgumentException
            """);
    }

    /** Nine tasks over eight locks: the longest chain there can be; a waiter's number is above its owner's or below. */
    private static void chainOverAllLocks() {
        for (int turn = 0; turn < 2; turn++) {
            StringBuilder calls = new StringBuilder();
            for (int i = 0; i < 9; i++) {
                int task = turn == 0 ? i : 15 - i;
                calls.append("create " + task + " " + (i + 1) + " = " + task + "\n");
                if (i < 8) {
                    calls.append("lock " + i + " = 0\n");
                }
                if (i > 0) {
                    calls.append("lock " + (i - 1) + " = 1\n");
                }
            }
            for (int i = 0; i < 9; i++) {
                calls.append("told " + (turn == 0 ? i : 15 - i) + " 2 = 9\n");
            }
            calls.append("priority " + (turn == 0 ? 8 : 7) + " 200 = 9\n");
            calls.append("told " + (turn == 0 ? 0 : 15) + " 2 = 200\n");
            calls.append("lock 7 = throws.IllegalArgumentException\n");
            RUNS.run("promise 4, a chain over all locks", 8, 0, 0, calls.toString());
        }
    }

    private static void everyTaskPassesOn() {
        for (int waiter = 0; waiter < 16; waiter++) {
            int owner = 15 - waiter;
            RUNS.run("promise 4, " + waiter + " waits for " + owner, 1, 0, 0,
                    "create " + owner + " 3 = " + owner + "\n lock 0 = 0\n"
                    + "create " + waiter + " 8 = " + waiter + "\n lock 0 = 1\n"
                    + "told " + owner + " 2 = 8\n told " + owner + " 1 = 3\n running = " + owner + "\n"
                    + "first 2 0 = " + waiter + "\n unlock 0 = " + waiter + "\n told " + owner + " 2 = 3\n");
        }
    }

    private static void unlock() {
        RUNS.run("promise 5", 2, 0, 0, """
            create 0 1 = 0
            lock 0 = 0
            lock 1 = 0
            unlock 1 = -1
            owner 1 = -1
            told 0 6 = 1
            create 1 5 = 1
            lock 0 = 1
            create 2 7 = 2
            lock 0 = 1
            create 3 8 = 3
            lock 0 = 1
            priority 3 7 = 8
            create 4 6 = 0        # 0 has the 7 of 2 and of 3
            told 0 2 = 7
            unlock 0 = 2          # of equal ones the one that waits the longest
            owner 0 = 2
            told 0 2 = 1
            told 0 6 = 0
            told 2 0 = 1
            told 2 3 = -1
            told 2 2 = 7
            running = 2
            told 3 0 = 2
            unlock 0 = 3
            running = 2           # it was ready before 3
            end = 3
            unlock 0 = 1
            told 1 0 = 1
            end = 4
            end = 1
            unlock 0 = -1
            owner 0 = -1
            first 2 0 = -1
            """);
        RUNS.run("promise 5, those that wait on are behind the next owner", 1, 0, 0, """
            create 0 1 = 0
            lock 0 = 0
            create 1 4 = 1
            lock 0 = 1
            create 2 5 = 2
            lock 0 = 1
            unlock 0 = 2
            told 1 0 = 2
            priority 1 9 = 4
            told 2 2 = 9
            told 0 2 = 1
            priority 2 1 = 5
            told 2 2 = 9
            running = 2
            unlock 0 = 1
            told 2 2 = 1
            running = 1
            """);
    }

    private static void unlockThrows() {
        RUNS.run("promise 5, throws", 2, 0, 0, """
            unlock 0 = throws.IllegalStateException
            unlock 2 = throws.IndexOutOfBoundsException
            create 0 5 = 0
            unlock 0 = throws.IllegalArgumentException    # nobody owns it
            unlock 2 = throws.IndexOutOfBoundsException
            unlock -1 = throws.IndexOutOfBoundsException
            unlock -2147483648 = throws.IndexOutOfBoundsException
            lock 0 = 0
            create 1 6 = 1
            unlock 0 = throws.IllegalArgumentException    # another one owns it
            owner 0 = 0
            sleep 2 = 0
            unlock 0 = -1
            unlock 0 = throws.IllegalArgumentException
            sleep 1 = -1
            unlock 0 = throws.IllegalStateException
            unlock -1 = throws.IndexOutOfBoundsException
            """);
    }

    private static void owner() {
        RUNS.run("promise 15", 3, 0, 0, """
            owner 0 = -1
            owner 2 = -1
            owner 3 = throws.IndexOutOfBoundsException
            owner -1 = throws.IndexOutOfBoundsException
            create 12 5 = 12
            lock 2 = 0
            owner 2 = 12
            owner 1 = -1
            create 13 6 = 13
            lock 2 = 1
            owner 2 = 12
            unlock 2 = 13
            owner 2 = 13
            sleep 2 = 12
            owner 2 = 13
            tick 2 = 1
            unlock 2 = -1
            owner 2 = -1
            """);
    }

    private static void first() {
        RUNS.run("promise 18", 2, 2, 2, """
            create 0 9 = 0
            lock 1 = 0
            create 5 10 = 5
            lock 1 = 1
            first 2 1 = 5
            first 2 0 = -1
            create 4 11 = 4
            lock 1 = 1
            first 2 1 = 4
            create 3 20 = 3
            down 1 = 1
            first 3 1 = 3
            first 3 0 = -1
            first 2 1 = 4
            create 6 20 = 6
            down 1 = 1
            first 3 1 = 3         # of equal ones the one that came first
            create 2 30 = 2
            receive 1 = 1
            create 1 30 = 1
            receive 1 = 1
            first 5 1 = 2
            first 4 1 = -1
            first 5 0 = -1
            create 7 40 = 7
            send 0 1 = 0
            send 0 2 = 0
            send 0 3 = 0
            send 0 4 = 0
            send 0 5 = 1
            create 8 41 = 8
            send 0 6 = 1
            first 4 0 = 8
            first 5 0 = -1
            first 4 1 = -1
            priority 7 42 = 40
            first 4 0 = 7
            """);
    }

    private static void firstByEffectivePriority() {
        RUNS.run("promise 18, by effective priority", 1, 1, 0, """
            create 0 3 = 0
            lock 0 = 0
            down 0 = 1
            create 1 5 = 1
            down 0 = 1
            first 3 0 = 1
            create 2 8 = 2
            lock 0 = 1
            first 3 0 = 0         # it has the 8 of the one that waits for its lock
            up 0 = 0
            first 3 0 = 1
            unlock 0 = 2
            told 0 2 = 3
            """);
        RUNS.run("promise 18, of a lock, by effective priority", 2, 0, 0, """
            create 0 1 = 0
            lock 0 = 0
            create 1 2 = 1
            lock 1 = 0
            lock 0 = 1
            create 2 3 = 2
            lock 0 = 1
            first 2 0 = 2
            create 3 4 = 3
            lock 1 = 1
            first 2 0 = 1
            unlock 0 = 1
            first 2 0 = 2
            """);
    }

    private static void firstThrows() {
        RUNS.run("promise 18, throws", 1, 2, 3, """
            first 1 0 = throws.IllegalArgumentException
            first 6 0 = throws.IllegalArgumentException
            first 0 0 = throws.IllegalArgumentException
            first -1 0 = throws.IllegalArgumentException
            first 2147483647 0 = throws.IllegalArgumentException
            first 1 9 = throws.IllegalArgumentException
            first 6 -1 = throws.IllegalArgumentException
            first 2 0 = -1
            first 2 1 = throws.IndexOutOfBoundsException
            first 3 1 = -1
            first 3 2 = throws.IndexOutOfBoundsException
            first 4 2 = -1
            first 4 3 = throws.IndexOutOfBoundsException
            first 5 2 = -1
            first 5 3 = throws.IndexOutOfBoundsException
            first 2 -1 = throws.IndexOutOfBoundsException
            first 3 -1 = throws.IndexOutOfBoundsException
            first 4 -1 = throws.IndexOutOfBoundsException
            first 5 -1 = throws.IndexOutOfBoundsException
            create 0 5 = 0
            first 2 -1 = throws.IndexOutOfBoundsException
            first 1 -1 = throws.IllegalArgumentException
            """);
    }
}
