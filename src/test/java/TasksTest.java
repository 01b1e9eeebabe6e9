/** Promises 2, 3, 11, 13, 14 and 19: tasks, their priorities, and which one runs. */
public final class TasksTest {
    private static final Runs RUNS = new Runs();

    public static void main(String[] args) {
        create();
        createThrows();
        priority();
        priorityOfThoseThatWait();
        priorityThrows();
        end();
        endThrows();
        running();
        told();
        toldThrows();
        clear();
        clearBringsStampsInOrder();
        RUNS.finish();
    }

    private static void create() {
        RUNS.run("promise 2", 0, 0, 0, """
            create 3 7 = 3
            told 3 0 = 1
            told 3 1 = 7
            told 3 2 = 7
            create 0 7 = 3      # of equal ones the earlier
            create 15 1 = 3     # the edges of task and priority
            create 1 255 = 1
            create 2 255 = 1
            create 4 254 = 1
            told 15 1 = 1
            told 1 1 = 255
            end = 2
            end = 4
            end = 3
            create 4 7 = 3      # a task that has ended is free again, and comes last
            end = 0
            create 3 7 = 0
            end = 4
            end = 3
            end = 15
            end = -1
            create 15 9 = 15
            """);
    }

    private static void createThrows() {
        RUNS.run("promise 2, throws", 1, 0, 0, """
            create -1 5 = throws.IndexOutOfBoundsException
            create 16 5 = throws.IndexOutOfBoundsException
            create 2147483647 5 = throws.IndexOutOfBoundsException
            create -2147483648 5 = throws.IndexOutOfBoundsException
            create 16 0 = throws.IndexOutOfBoundsException
            create 0 0 = throws.IllegalArgumentException
            create 0 256 = throws.IllegalArgumentException
            create 0 -1 = throws.IllegalArgumentException
            create 0 2147483647 = throws.IllegalArgumentException
            running = -1
            told 0 0 = 0
            create 0 5 = 0
            create 0 5 = throws.IllegalStateException
            create 0 9 = throws.IllegalStateException
            create 0 0 = throws.IllegalArgumentException
            create 0 256 = throws.IllegalArgumentException
            told 0 1 = 5
            lock 0 = 0
            create 1 6 = 1
            lock 0 = 1
            create 1 6 = throws.IllegalStateException     # it waits
            sleep 3 = -1
            create 0 6 = throws.IllegalStateException     # it sleeps
            """);
    }

    private static void priority() {
        RUNS.run("promise 3", 0, 0, 0, """
            create 0 5 = 0
            create 1 5 = 0
            create 2 5 = 0
            priority 0 4 = 5
            running = 1
            told 0 1 = 4
            told 0 2 = 4
            priority 0 5 = 4     # the stamp is still the first
            running = 0
            priority 2 6 = 5
            running = 2
            priority 2 6 = 6
            priority 2 1 = 6
            priority 2 255 = 1
            told 2 1 = 255
            priority 2 5 = 255
            running = 0
            """);
    }

    private static void priorityOfThoseThatWait() {
        RUNS.run("promise 3, along locks", 3, 1, 0, """
            create 0 1 = 0
            lock 0 = 0
            create 1 2 = 1
            lock 1 = 0
            lock 0 = 1
            create 2 3 = 2
            lock 1 = 1
            running = 0
            told 0 2 = 3
            priority 2 90 = 3
            told 0 2 = 90
            told 1 2 = 90
            told 0 1 = 1
            told 1 1 = 2
            priority 1 100 = 2
            told 0 2 = 100
            told 1 2 = 100
            told 2 2 = 90
            priority 1 1 = 100    # priorities sink again
            priority 2 2 = 90
            told 0 2 = 2
            told 1 2 = 2
            priority 0 50 = 1
            told 0 2 = 50
            told 1 2 = 2
            """);
        RUNS.run("promise 3, of sleepers and waiters for a counter", 0, 1, 0, """
            create 0 5 = 0
            create 1 5 = 0
            create 2 5 = 0
            down 0 = 1
            down 0 = 1
            first 3 0 = 0
            priority 1 6 = 5
            first 3 0 = 1
            priority 1 5 = 6
            first 3 0 = 0         # the stamp is the one from when it began to wait
            sleep 2 = -1
            priority 2 8 = 5
            told 2 1 = 8
            told 2 2 = 8
            told 2 4 = 2
            """);
    }

    private static void priorityThrows() {
        RUNS.run("promise 3, throws", 0, 0, 0, """
            priority 0 5 = throws.IllegalStateException
            priority 0 0 = throws.IllegalArgumentException
            priority 0 256 = throws.IllegalArgumentException
            priority 16 5 = throws.IndexOutOfBoundsException
            priority -1 5 = throws.IndexOutOfBoundsException
            priority 16 0 = throws.IndexOutOfBoundsException
            create 0 5 = 0
            priority 0 0 = throws.IllegalArgumentException
            priority 0 256 = throws.IllegalArgumentException
            priority 0 -2147483648 = throws.IllegalArgumentException
            told 0 1 = 5
            end = -1
            priority 0 5 = throws.IllegalStateException
            """);
    }

    private static void end() {
        RUNS.run("promise 11", 1, 0, 1, """
            create 0 5 = 0
            create 1 6 = 1
            send 0 77 = 0
            receive 0 = 0
            told 1 5 = 77
            end = 0
            told 1 0 = 0
            told 1 1 = 0
            told 1 2 = 0
            told 1 3 = -1
            told 1 4 = 0
            told 1 5 = 0
            told 1 6 = 0
            create 1 6 = 1
            told 1 5 = 0          # the word is one since it was created
            end = 0
            lock 0 = 0
            unlock 0 = -1
            end = -1
            running = -1
            """);
    }

    private static void endThrows() {
        RUNS.run("promise 11, throws", 2, 0, 0, """
            end = throws.IllegalStateException
            create 0 5 = 0
            lock 1 = 0
            end = throws.IllegalArgumentException
            told 0 0 = 1
            owner 1 = 0
            create 1 6 = 1
            lock 1 = 1
            end = throws.IllegalArgumentException
            unlock 1 = 1
            end = throws.IllegalArgumentException
            unlock 1 = -1
            end = 0
            sleep 4 = -1
            end = throws.IllegalStateException
            """);
    }

    private static void running() {
        RUNS.run("promise 13", 2, 1, 1, """
            running = -1
            create 9 5 = 9
            create 3 5 = 9
            create 6 8 = 6
            running = 6
            running = 6
            down 0 = 1
            running = 9           # ready the longest of equal ones
            up 0 = 6
            running = 6
            priority 6 5 = 8
            running = 9           # 6 became ready last
            sleep 1 = 3
            tick 1 = 1
            running = 3
            receive 0 = 1
            running = 6
            end = 9
            end = -1
            running = -1          # 3 waits yet
            """);
        RUNS.run("promise 13, by effective priority", 1, 0, 0, """
            create 0 1 = 0
            lock 0 = 0
            create 1 5 = 1
            create 2 9 = 2
            lock 0 = 1
            running = 0           # it has the 9 of the one that waits
            create 3 9 = 0        # of equal effective ones the least stamp
            unlock 0 = 2
            running = 3           # 2 became ready later than 3
            """);
    }

    private static void told() {
        RUNS.run("promise 14", 3, 2, 3, """
            create 0 10 = 0
            lock 0 = 0
            lock 2 = 0
            told 0 6 = 2
            told 0 3 = -1
            create 1 20 = 1
            lock 2 = 1
            told 1 0 = 2
            told 1 3 = 2
            told 0 2 = 20
            told 0 1 = 10
            create 2 30 = 2
            down 1 = 1
            told 2 0 = 3
            told 2 3 = 1
            create 3 40 = 3
            receive 2 = 1
            told 3 0 = 5
            told 3 3 = 2
            told 3 5 = 0
            create 4 50 = 4
            send 1 1 = 0
            send 1 2 = 0
            send 1 3 = 0
            send 1 4 = 0
            send 1 5 = 1
            told 4 0 = 4
            told 4 3 = 1
            create 5 60 = 5
            sleep 7 = 0
            told 5 0 = 6
            told 5 3 = -1
            told 5 4 = 7
            tick 3 = 0
            told 5 4 = 4
            tick 4 = 1
            told 5 4 = 0
            told 5 0 = 1
            send 2 -2147483648 = 0
            told 3 5 = -2147483648
            told 3 0 = 1
            told 3 3 = -1
            told 5 5 = 0
            told 6 0 = 0
            told 6 3 = -1
            """);
    }

    private static void toldThrows() {
        RUNS.run("promise 14, throws", 0, 0, 0, """
            told -1 0 = throws.IndexOutOfBoundsException
            told 16 0 = throws.IndexOutOfBoundsException
            told 16 7 = throws.IndexOutOfBoundsException
            told 0 -1 = throws.IllegalArgumentException
            told 0 7 = throws.IllegalArgumentException
            told 15 2147483647 = throws.IllegalArgumentException
            told 15 -2147483648 = throws.IllegalArgumentException
            told 15 6 = 0
            """);
    }

    private static void clear() {
        PriorityCore used = new PriorityCore(3, 2, 2);
        String[] calls = {
            "create 0 1", "lock 0", "create 1 2", "lock 1", "lock 0", "create 2 3", "lock 1", "up 0", "up 0",
            "create 3 4", "send 0 5", "send 0 6", "receive 0", "send 0 7", "send 0 8", "send 0 9", "send 0 10",
            "create 4 5", "receive 1", "create 5 6", "down 1", "create 6 7", "sleep 9", "clear",
        };
        for (String call : calls) {
            Runs.answer(used, call);
        }
        String fresh = Runs.snapshot(new PriorityCore(3, 2, 2));
        RUNS.due("promise 19: the state behind clear()", Runs.snapshot(used), fresh);
        RUNS.run("promise 19, on a new object", 1, 1, 1, "clear = \n running = -1");
    }

    private static void clearBringsStampsInOrder() {
        RUNS.run("promise 19, used again", 1, 1, 1, """
            create 1 5 = 1
            create 0 5 = 1
            send 0 1 = 0
            sleep 5 = 0
            lock 0 = 0
            clear =
            tick 10 = 0           # nobody sleeps any more
            create 0 5 = 0
            create 1 5 = 0
            receive 0 = 1         # the box is empty
            running = 1
            send 0 9 = 0
            told 0 5 = 9
            lock 0 = 0
            owner 0 = 1
            """);
    }
}
