import java.util.Arrays;

/** Which of sixteen tasks runs, and what the others wait for: by priority, then by the order of coming. */
public final class PriorityCore {
    public static final int NONE = -1;

    private static final int TASKS = 16;
    private static final int MOST_OF_A_KIND = 8;
    private static final int BOX_ROOM = 4;
    private static final int TOP_PRIORITY = 255;
    private static final int TOP_NUMBER = 1000;
    private static final int MOST_TICKS = 1000;

    // The states have the numbers by which told and first know them.
    private static final int FREE = 0;
    private static final int READY = 1;
    private static final int FOR_LOCK = 2;
    private static final int FOR_COUNTER = 3;
    private static final int TO_SEND = 4;
    private static final int TO_RECEIVE = 5;
    private static final int ASLEEP = 6;

    private static final int DONE = 0;
    private static final int WAITS = 1;

    private final int[] states = new int[TASKS];
    private final int[] bases = new int[TASKS];
    private final int[] effectives = new int[TASKS];
    private final int[] stamps = new int[TASKS];
    private final int[] targets = new int[TASKS];
    private final int[] ticksLeft = new int[TASKS];
    private final int[] gotWords = new int[TASKS];
    private final int[] sentWords = new int[TASKS];

    private final int[] owners;
    private final int[] numbers;
    private final int[] fills;
    // All boxes share one row, BOX_ROOM places each, so that an object is made of few arrays.
    private final int[] store;

    private int lastStamp;

    public PriorityCore(int locks, int counters, int boxes) {
        owners = new int[nearestAllowed(locks)];
        numbers = new int[nearestAllowed(counters)];
        fills = new int[nearestAllowed(boxes)];
        store = new int[fills.length * BOX_ROOM];
        reset();
    }

    public int create(int task, int priority)
            throws IndexOutOfBoundsException, IllegalArgumentException, IllegalStateException {
        requireTask(task);
        requirePriority(priority);
        if (states[task] != FREE) {
            throw new IllegalStateException("the task is not free");
        }
        bases[task] = priority;
        becomeReady(task);
        settlePriorities();
        return running();
    }

    public int priority(int task, int priority)
            throws IndexOutOfBoundsException, IllegalArgumentException, IllegalStateException {
        requireTask(task);
        requirePriority(priority);
        if (states[task] == FREE) {
            throw new IllegalStateException("the task is free");
        }
        int before = bases[task];
        bases[task] = priority;
        settlePriorities();
        return before;
    }

    public int lock(int lock)
            throws IndexOutOfBoundsException, IllegalStateException, IllegalArgumentException {
        requireLock(lock);
        int task = requireRunning();
        if (wouldWaitForItself(task, lock)) {
            throw new IllegalArgumentException("the task would wait for itself");
        }
        if (owners[lock] == NONE) {
            owners[lock] = task;
            return DONE;
        }
        enter(task, FOR_LOCK, lock);
        settlePriorities();
        return WAITS;
    }

    public int unlock(int lock)
            throws IndexOutOfBoundsException, IllegalStateException, IllegalArgumentException {
        requireLock(lock);
        int task = requireRunning();
        if (owners[lock] != task) {
            throw new IllegalArgumentException("the task does not own the lock");
        }
        int heir = foremost(FOR_LOCK, lock);
        owners[lock] = heir;
        if (heir != NONE) {
            becomeReady(heir);
        }
        settlePriorities();
        return heir;
    }

    public int down(int counter) throws IndexOutOfBoundsException, IllegalStateException {
        requireCounter(counter);
        int task = requireRunning();
        if (numbers[counter] > 0) {
            numbers[counter]--;
            return DONE;
        }
        enter(task, FOR_COUNTER, counter);
        return WAITS;
    }

    public int up(int counter) throws IndexOutOfBoundsException, UnsupportedOperationException {
        requireCounter(counter);
        int waiter = foremost(FOR_COUNTER, counter);
        if (waiter != NONE) {
            becomeReady(waiter);
            return waiter;
        }
        if (numbers[counter] >= TOP_NUMBER) {
            throw new UnsupportedOperationException("the counter is at its greatest number");
        }
        numbers[counter]++;
        return NONE;
    }

    public int send(int box, int word) throws IndexOutOfBoundsException, IllegalStateException {
        requireBox(box);
        int task = requireRunning();
        int receiver = foremost(TO_RECEIVE, box);
        if (receiver != NONE) {
            gotWords[receiver] = word;
            becomeReady(receiver);
            return DONE;
        }
        if (putBehind(box, word)) {
            return DONE;
        }
        sentWords[task] = word;
        enter(task, TO_SEND, box);
        return WAITS;
    }

    public int receive(int box) throws IndexOutOfBoundsException, IllegalStateException {
        requireBox(box);
        int task = requireRunning();
        if (fills[box] == 0) {
            enter(task, TO_RECEIVE, box);
            return WAITS;
        }
        gotWords[task] = takeFront(box);
        int sender = foremost(TO_SEND, box);
        if (sender != NONE && putBehind(box, sentWords[sender])) {
            becomeReady(sender);
        }
        return DONE;
    }

    public int sleep(int ticks) throws IllegalStateException, IllegalArgumentException {
        int task = requireRunning();
        if (ticks < 1 || ticks > MOST_TICKS) {
            throw new IllegalArgumentException("the ticks are not 1 .. 1000");
        }
        enter(task, ASLEEP, NONE);
        ticksLeft[task] = ticks;
        return running();
    }

    public int end() throws IllegalStateException, IllegalArgumentException {
        int task = requireRunning();
        if (locksOwnedBy(task) > 0) {
            throw new IllegalArgumentException("the task owns a lock");
        }
        states[task] = FREE;
        bases[task] = 0;
        gotWords[task] = 0;
        settlePriorities();
        return running();
    }

    public int tick(int many) throws IllegalArgumentException {
        if (many < 0 || many > MOST_TICKS) {
            throw new IllegalArgumentException("the ticks are not 0 .. 1000");
        }
        int woken = wakeWithin(many);
        for (int task = 0; task < TASKS; task++) {
            if (states[task] == ASLEEP) {
                ticksLeft[task] -= many;
            }
        }
        return woken;
    }

    public int running() {
        return foremost(READY, NONE);
    }

    public int told(int task, int what) throws IndexOutOfBoundsException, IllegalArgumentException {
        requireTask(task);
        switch (what) {
            case 0:
                return states[task];
            case 1:
                return bases[task];
            case 2:
                return effectives[task];
            case 3:
                return targets[task];
            case 4:
                return ticksLeft[task];
            case 5:
                return gotWords[task];
            case 6:
                return locksOwnedBy(task);
            default:
                throw new IllegalArgumentException("nothing is told by this number");
        }
    }

    public int owner(int lock) throws IndexOutOfBoundsException {
        requireLock(lock);
        return owners[lock];
    }

    public int count(int counter) throws IndexOutOfBoundsException {
        requireCounter(counter);
        return numbers[counter];
    }

    public int words(int box) throws IndexOutOfBoundsException {
        requireBox(box);
        return fills[box];
    }

    public int first(int kind, int k) throws IllegalArgumentException, IndexOutOfBoundsException {
        switch (kind) {
            case FOR_LOCK:
                requireLock(k);
                break;
            case FOR_COUNTER:
                requireCounter(k);
                break;
            case TO_SEND:
            case TO_RECEIVE:
                requireBox(k);
                break;
            default:
                throw new IllegalArgumentException("nothing is waited for by this kind");
        }
        return foremost(kind, k);
    }

    public void clear() {
        reset();
    }

    private void reset() {
        Arrays.fill(states, FREE);
        Arrays.fill(bases, 0);
        Arrays.fill(effectives, 0);
        Arrays.fill(stamps, 0);
        Arrays.fill(targets, NONE);
        Arrays.fill(ticksLeft, 0);
        Arrays.fill(gotWords, 0);
        Arrays.fill(sentWords, 0);
        Arrays.fill(owners, NONE);
        Arrays.fill(numbers, 0);
        Arrays.fill(fills, 0);
        Arrays.fill(store, 0);
        lastStamp = 0;
    }

    private static int nearestAllowed(int many) {
        return Math.max(0, Math.min(MOST_OF_A_KIND, many));
    }

    private static void requireTask(int task) {
        if (task < 0 || task >= TASKS) {
            throw new IndexOutOfBoundsException("there is no such task");
        }
    }

    private static void requirePriority(int priority) {
        if (priority < 1 || priority > TOP_PRIORITY) {
            throw new IllegalArgumentException("the priority is not 1 .. 255");
        }
    }

    private void requireLock(int lock) {
        if (lock < 0 || lock >= owners.length) {
            throw new IndexOutOfBoundsException("there is no such lock");
        }
    }

    private void requireCounter(int counter) {
        if (counter < 0 || counter >= numbers.length) {
            throw new IndexOutOfBoundsException("there is no such counter");
        }
    }

    private void requireBox(int box) {
        if (box < 0 || box >= fills.length) {
            throw new IndexOutOfBoundsException("there is no such box");
        }
    }

    private int requireRunning() {
        int task = running();
        if (task == NONE) {
            throw new IllegalStateException("no task runs");
        }
        return task;
    }

    private void becomeReady(int task) {
        enter(task, READY, NONE);
        ticksLeft[task] = 0;
    }

    private void enter(int task, int state, int target) {
        states[task] = state;
        targets[task] = target;
        lastStamp++;
        stamps[task] = lastStamp;
    }

    /** Ready tasks have the target NONE, so that the one that runs is found like the first that waits. */
    private int foremost(int state, int target) {
        int best = NONE;
        for (int task = 0; task < TASKS; task++) {
            if (states[task] == state && targets[task] == target
                    && (best == NONE || comesBefore(task, best))) {
                best = task;
            }
        }
        return best;
    }

    private boolean comesBefore(int one, int other) {
        if (effectives[one] != effectives[other]) {
            return effectives[one] > effectives[other];
        }
        return stamps[one] < stamps[other];
    }

    /**
     * Made anew whenever a base, an owner or a wait for a lock is another one: a priority may sink as well as
     * rise, and what has sunk could not be told from the effective priorities alone.
     */
    private void settlePriorities() {
        System.arraycopy(bases, 0, effectives, 0, TASKS);
        for (int task = 0; task < TASKS; task++) {
            passOnBase(task);
        }
    }

    private void passOnBase(int task) {
        int holder = holderAheadOf(task);
        for (int step = 0; step < TASKS && holder != NONE; step++) {
            effectives[holder] = Math.max(effectives[holder], bases[task]);
            holder = holderAheadOf(holder);
        }
    }

    private boolean wouldWaitForItself(int task, int lock) {
        int holder = owners[lock];
        for (int step = 0; step < TASKS && holder != NONE; step++) {
            if (holder == task) {
                return true;
            }
            holder = holderAheadOf(holder);
        }
        return false;
    }

    /** NONE also for a task that waits for something else than a lock: the chain ends with it. */
    private int holderAheadOf(int task) {
        if (states[task] != FOR_LOCK) {
            return NONE;
        }
        int lock = targets[task];
        return lock >= 0 && lock < owners.length ? owners[lock] : NONE;
    }

    private int locksOwnedBy(int task) {
        int many = 0;
        for (int holder : owners) {
            if (holder == task) {
                many++;
            }
        }
        return many;
    }

    private boolean putBehind(int box, int word) {
        int fill = fills[box];
        if (fill >= BOX_ROOM) {
            return false;
        }
        store[box * BOX_ROOM + fill] = word;
        fills[box] = fill + 1;
        return true;
    }

    private int takeFront(int box) {
        int front = box * BOX_ROOM;
        int word = store[front];
        System.arraycopy(store, front + 1, store, front, BOX_ROOM - 1);
        fills[box]--;
        return word;
    }

    /** Wakes in the order in which the ticks would go by one at a time, for the stamps tell that order. */
    private int wakeWithin(int many) {
        int woken = 0;
        for (int round = 0; round < TASKS; round++) {
            int task = soonestSleeper();
            if (task == NONE || ticksLeft[task] > many) {
                break;
            }
            becomeReady(task);
            woken++;
        }
        return woken;
    }

    private int soonestSleeper() {
        int best = NONE;
        for (int task = 0; task < TASKS; task++) {
            if (states[task] == ASLEEP && (best == NONE || ticksLeft[task] < ticksLeft[best])) {
                best = task;
            }
        }
        return best;
    }
}
