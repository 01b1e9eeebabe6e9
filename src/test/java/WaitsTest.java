/** Promises 6 to 10, 12, 16 and 17: counters, boxes and sleep. */
public final class WaitsTest {
    private static final Runs RUNS = new Runs();

    public static void main(String[] args) {
        down();
        downThrows();
        up();
        upThrows();
        count();
        send();
        sendHandsOn();
        sendThrows();
        receive();
        receiveKeepsTheOrder();
        receiveThrows();
        words();
        sleep();
        sleepThrows();
        tick();
        tickWakesInOrder();
        tickWakesAll();
        tickThrows();
        RUNS.finish();
    }

    private static void down() {
        RUNS.run("promise 6", 0, 2, 0, """
            create 0 5 = 0
            up 1 = -1
            up 1 = -1
            down 1 = 0
            count 1 = 1
            running = 0
            down 1 = 0
            count 1 = 0
            create 1 4 = 0
            down 1 = 1
            count 1 = 0
            told 0 0 = 3
            told 0 3 = 1
            running = 1
            down 0 = 1
            told 1 3 = 0
            running = -1
            """);
    }

    private static void downThrows() {
        RUNS.run("promise 6, throws", 1, 2, 1, """
            down 0 = throws.IllegalStateException
            down 2 = throws.IndexOutOfBoundsException
            down -1 = throws.IndexOutOfBoundsException
            up 0 = -1
            down 0 = throws.IllegalStateException
            count 0 = 1
            create 0 5 = 0
            down 2 = throws.IndexOutOfBoundsException
            down 2147483647 = throws.IndexOutOfBoundsException
            down -2147483648 = throws.IndexOutOfBoundsException
            down 0 = 0
            """);
    }

    private static void up() {
        RUNS.run("promise 7", 0, 2, 0, """
            up 0 = -1
            up 0 = -1
            count 0 = 2
            count 1 = 0
            create 4 5 = 4
            create 3 5 = 4
            create 2 6 = 2
            down 1 = 1
            down 1 = 1
            down 1 = 1
            up 0 = -1             # nobody waits for this one
            up 1 = 2              # by anybody: no task runs
            count 1 = 0
            told 2 0 = 1
            told 2 3 = -1
            running = 2
            up 1 = 4
            up 1 = 3
            running = 2
            up 1 = -1
            count 1 = 1
            end = 4               # 4 was ready before 3
            end = 3
            """);
    }

    private static void upThrows() {
        RUNS.run("promise 7, throws", 1, 2, 1, """
            up 2 = throws.IndexOutOfBoundsException
            up -1 = throws.IndexOutOfBoundsException
            up 2147483647 = throws.IndexOutOfBoundsException
            up -2147483648 = throws.IndexOutOfBoundsException
            """);
    }

    private static void count() {
        StringBuilder calls = new StringBuilder();
        for (int i = 0; i < 300; i++) {
            calls.append("up 2 = -1\n");
        }
        RUNS.run("promise 16", 0, 3, 0, calls + """
            count 2 = 300
            count 0 = 0
            count 1 = 0
            create 0 5 = 0
            down 2 = 0
            count 2 = 299
            count 3 = throws.IndexOutOfBoundsException
            count -1 = throws.IndexOutOfBoundsException
            """);
    }

    private static void send() {
        RUNS.run("promise 8", 0, 0, 2, """
            create 0 5 = 0
            create 1 5 = 0
            send 1 0 = 0
            send 1 -1 = 0
            send 1 2147483647 = 0
            words 1 = 3
            send 1 -2147483648 = 0
            words 1 = 4
            running = 0
            send 1 9 = 1
            words 1 = 4
            words 0 = 0
            told 0 0 = 4
            told 0 3 = 1
            running = 1
            receive 1 = 0
            told 1 5 = 0
            told 0 0 = 1
            words 1 = 4
            receive 1 = 0
            told 1 5 = -1
            receive 1 = 0
            told 1 5 = 2147483647
            receive 1 = 0
            told 1 5 = -2147483648
            receive 1 = 0
            told 1 5 = 9
            words 1 = 0
            """);
    }

    private static void sendHandsOn() {
        RUNS.run("promise 8, handed on", 0, 0, 2, """
            create 0 5 = 0
            create 1 6 = 1
            create 2 6 = 1
            create 3 1 = 1
            receive 0 = 1
            receive 0 = 1
            receive 0 = 1
            running = 3
            send 1 8 = 0          # nobody waits at this one
            words 1 = 1
            send 0 70 = 0         # the greatest priority, the longest wait
            words 0 = 0
            told 1 5 = 70
            told 1 0 = 1
            told 1 3 = -1
            told 2 0 = 5
            running = 1
            send 0 71 = 0
            told 2 5 = 71
            running = 1           # ready before 2
            send 0 72 = 0
            told 0 5 = 72
            told 1 5 = 70
            send 0 73 = 0
            words 0 = 1
            """);
    }

    private static void sendThrows() {
        RUNS.run("promise 8, throws", 1, 1, 2, """
            send 0 1 = throws.IllegalStateException
            send 2 1 = throws.IndexOutOfBoundsException
            send -1 1 = throws.IndexOutOfBoundsException
            words 0 = 0
            create 0 5 = 0
            send 2 1 = throws.IndexOutOfBoundsException
            send 2147483647 1 = throws.IndexOutOfBoundsException
            send -2147483648 1 = throws.IndexOutOfBoundsException
            receive 1 = 1
            send 1 5 = throws.IllegalStateException
            told 0 5 = 0
            told 0 0 = 5
            """);
    }

    private static void receive() {
        RUNS.run("promise 9", 0, 0, 2, """
            create 0 5 = 0
            create 1 5 = 0
            send 0 11 = 0
            send 0 12 = 0
            receive 0 = 0
            told 0 5 = 11
            running = 0
            words 0 = 1
            receive 0 = 0
            told 0 5 = 12
            words 0 = 0
            receive 0 = 1
            told 0 0 = 5
            told 0 3 = 0
            told 0 5 = 12         # until another comes
            running = 1
            receive 1 = 1
            told 1 3 = 1
            running = -1
            """);
    }

    private static void receiveKeepsTheOrder() {
        RUNS.run("promise 9, those that wait to send", 0, 0, 1, """
            create 0 5 = 0
            send 0 1 = 0
            send 0 2 = 0
            send 0 3 = 0
            send 0 4 = 0
            send 0 5 = 1
            create 1 9 = 1
            send 0 6 = 1
            create 2 9 = 2
            send 0 7 = 1
            create 3 1 = 3
            receive 0 = 0
            told 3 5 = 1
            running = 1           # the first sender is ready
            told 1 3 = -1
            told 2 0 = 4
            sleep 9 = 3
            receive 0 = 0
            told 3 5 = 2
            running = 2
            sleep 9 = 3
            receive 0 = 0
            told 3 5 = 3
            running = 0
            sleep 9 = 3
            words 0 = 4
            receive 0 = 0
            told 3 5 = 4
            receive 0 = 0
            told 3 5 = 6
            receive 0 = 0
            told 3 5 = 7
            receive 0 = 0
            told 3 5 = 5
            words 0 = 0
            """);
    }

    private static void receiveThrows() {
        RUNS.run("promise 9, throws", 1, 1, 2, """
            receive 0 = throws.IllegalStateException
            receive 2 = throws.IndexOutOfBoundsException
            receive -1 = throws.IndexOutOfBoundsException
            create 0 5 = 0
            receive 2 = throws.IndexOutOfBoundsException
            receive 2147483647 = throws.IndexOutOfBoundsException
            receive -2147483648 = throws.IndexOutOfBoundsException
            send 0 3 = 0
            sleep 1 = -1
            receive 0 = throws.IllegalStateException
            words 0 = 1
            """);
    }

    private static void words() {
        RUNS.run("promise 17", 0, 0, 8, """
            words 0 = 0
            words 7 = 0
            words 8 = throws.IndexOutOfBoundsException
            words -1 = throws.IndexOutOfBoundsException
            create 0 5 = 0
            create 1 5 = 0
            send 7 1 = 0
            send 7 2 = 0
            words 7 = 2
            words 6 = 0
            send 6 3 = 0
            words 6 = 1
            receive 7 = 0
            words 7 = 1
            told 0 5 = 1
            receive 6 = 0
            told 0 5 = 3
            words 6 = 0
            """);
    }

    private static void sleep() {
        RUNS.run("promise 10", 1, 0, 0, """
            create 0 5 = 0
            create 1 4 = 0
            create 2 3 = 0
            sleep 1000 = 1
            told 0 0 = 6
            told 0 3 = -1
            told 0 4 = 1000
            sleep 1 = 2
            told 1 4 = 1
            lock 0 = 0
            sleep 2 = -1
            told 2 6 = 1
            tick 1 = 1
            running = 1
            lock 0 = 1
            told 2 2 = 4          # a sleeper too gets the priority of the one that waits
            tick 1 = 1
            running = 2
            tick 997 = 0
            told 0 4 = 1
            tick 1 = 1
            running = 0
            told 0 4 = 0
            """);
    }

    private static void sleepThrows() {
        RUNS.run("promise 10, throws", 0, 0, 0, """
            sleep 1 = throws.IllegalStateException
            sleep 0 = throws.IllegalStateException
            sleep 1001 = throws.IllegalStateException
            create 0 5 = 0
            sleep 0 = throws.IllegalArgumentException
            sleep -1 = throws.IllegalArgumentException
            sleep 1001 = throws.IllegalArgumentException
            sleep 2147483647 = throws.IllegalArgumentException
            sleep -2147483648 = throws.IllegalArgumentException
            told 0 0 = 1
            sleep 5 = -1
            sleep 5 = throws.IllegalStateException
            """);
    }

    private static void tick() {
        RUNS.run("promise 12", 0, 0, 0, """
            tick 0 = 0
            tick 1000 = 0
            create 0 5 = 0
            tick 5 = 0
            create 1 5 = 0
            create 2 5 = 0
            sleep 3 = 1
            sleep 3 = 2
            sleep 5 = -1
            tick 0 = 0
            told 0 4 = 3
            tick 2 = 0
            told 0 4 = 1
            told 2 4 = 3
            tick 1 = 2
            told 0 0 = 1
            told 0 4 = 0
            told 2 4 = 2
            running = 0
            tick 1000 = 1
            told 2 0 = 1
            told 2 4 = 0
            sleep 2 = 1           # ticks that went by before do not count
            tick 1 = 0
            tick 1 = 1
            """);
    }

    private static void tickWakesInOrder() {
        RUNS.run("promise 12, the order", 0, 0, 0, """
            create 3 5 = 3
            create 2 5 = 3
            create 1 5 = 3
            create 0 5 = 3
            sleep 2 = 2           # 3
            sleep 2 = 1           # 2
            sleep 1 = 0           # 1
            sleep 3 = -1          # 0
            tick 3 = 4
            running = 1           # the tick before first
            end = 2               # of one tick the least task first
            end = 3
            end = 0
            end = -1
            """);
        RUNS.run("promise 12, a whole thousand", 0, 0, 0, """
            create 0 5 = 0
            create 1 5 = 0
            sleep 1000 = 1
            sleep 999 = -1
            tick 1000 = 2
            running = 1
            """);
    }

    private static void tickWakesAll() {
        StringBuilder calls = new StringBuilder();
        for (int task = 0; task < 16; task++) {
            calls.append("create " + task + " 5 = " + task + "\n sleep " + (16 - task) + " = -1\n");
        }
        calls.append("tick 16 = 16\n");
        for (int task = 15; task >= 0; task--) {
            calls.append("running = " + task + "\n end = " + (task - 1) + "\n");
        }
        RUNS.run("promise 12, all sixteen", 0, 0, 0, calls.toString());
    }

    private static void tickThrows() {
        RUNS.run("promise 12, throws", 0, 0, 0, """
            tick -1 = throws.IllegalArgumentException
            tick 1001 = throws.IllegalArgumentException
            create 0 5 = 0
            sleep 1 = -1
            tick -1 = throws.IllegalArgumentException
            tick 1001 = throws.IllegalArgumentException
            tick 2147483647 = throws.IllegalArgumentException
            tick -2147483648 = throws.IllegalArgumentException
            told 0 0 = 6
            told 0 4 = 1
            """);
    }
}
