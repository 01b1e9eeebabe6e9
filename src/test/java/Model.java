import java.util.ArrayList;
import java.util.List;

/**
 * The document's terms once more, as plainly as can be: queues hold their tasks in the order of coming, an effective
 * priority is looked for anew each time, ticks go by one at a time. Answers are texts, as those of Runs.answer.
 */
final class Model {
    private static final String NO_INDEX = "throws.IndexOutOfBoundsException";
    private static final String NO_STATE = "throws.IllegalStateException";
    private static final String NO_ARGUMENT = "throws.IllegalArgumentException";

    private static final class Task {
        final int name;
        int base;
        int ticks;
        int got;
        int carried;
        Queue in;

        Task(int name) {
            this.name = name;
        }
    }

    /** Those in one state, for one thing, in the order in which they came. */
    private static final class Queue {
        final int state;
        final int thing;
        final List<Task> tasks = new ArrayList<>();
        Task owner;
        int number;
        final List<Integer> words = new ArrayList<>();

        Queue(int state, int thing) {
            this.state = state;
            this.thing = thing;
        }
    }

    private final int locks;
    private final int counters;
    private final int boxes;
    private Task[] tasks;
    private List<Queue> queues;

    Model(int locks, int counters, int boxes) {
        this.locks = locks;
        this.counters = counters;
        this.boxes = boxes;
        clear();
    }

    String answer(String call) {
        String[] parts = call.split(" ");
        int a = parts.length > 1 ? Integer.parseInt(parts[1]) : 0;
        int b = parts.length > 2 ? Integer.parseInt(parts[2]) : 0;
        switch (parts[0]) {
            case "create": return create(a, b);
            case "priority": return priority(a, b);
            case "lock": return lock(a);
            case "unlock": return unlock(a);
            case "down": return down(a);
            case "up": return up(a);
            case "send": return send(a, b);
            case "receive": return receive(a);
            case "sleep": return sleep(a);
            case "end": return end();
            case "tick": return tick(a);
            case "running": return nameOf(running());
            case "told": return told(a, b);
            case "owner": return isIn(a, locks) ? nameOf(queue(2, a).owner) : NO_INDEX;
            case "count": return isIn(a, counters) ? "" + queue(3, a).number : NO_INDEX;
            case "words": return isIn(a, boxes) ? "" + queue(4, a).words.size() : NO_INDEX;
            case "first": return first(a, b);
            default: clear(); return "";
        }
    }

    private void clear() {
        tasks = new Task[16];
        queues = new ArrayList<>();
        for (int i = 0; i < 16; i++) {
            tasks[i] = new Task(i);
            move(tasks[i], 0, -1);
        }
    }

    private String create(int name, int priority) {
        if (!isIn(name, 16)) {
            return NO_INDEX;
        }
        if (priority < 1 || priority > 255) {
            return NO_ARGUMENT;
        }
        if (tasks[name].in.state != 0) {
            return NO_STATE;
        }
        tasks[name].in.tasks.remove(tasks[name]);
        tasks[name] = new Task(name);
        tasks[name].base = priority;
        move(tasks[name], 1, -1);
        return nameOf(running());
    }

    private String priority(int name, int priority) {
        if (!isIn(name, 16)) {
            return NO_INDEX;
        }
        if (priority < 1 || priority > 255) {
            return NO_ARGUMENT;
        }
        if (tasks[name].in.state == 0) {
            return NO_STATE;
        }
        int before = tasks[name].base;
        tasks[name].base = priority;
        return "" + before;
    }

    private String lock(int name) {
        if (!isIn(name, locks)) {
            return NO_INDEX;
        }
        Task task = running();
        if (task == null) {
            return NO_STATE;
        }
        Queue lock = queue(2, name);
        if (lock.owner == null) {
            lock.owner = task;
            return "0";
        }
        if (leadsTo(lock.owner, task)) {
            return NO_ARGUMENT;
        }
        move(task, 2, name);
        return "1";
    }

    private boolean leadsTo(Task from, Task to) {
        return from == to || from.in.state == 2 && leadsTo(from.in.owner, to);
    }

    private String unlock(int name) {
        if (!isIn(name, locks)) {
            return NO_INDEX;
        }
        Task task = running();
        if (task == null) {
            return NO_STATE;
        }
        Queue lock = queue(2, name);
        if (lock.owner != task) {
            return NO_ARGUMENT;
        }
        lock.owner = foremost(lock);
        return wake(lock.owner);
    }

    private String down(int name) {
        if (!isIn(name, counters)) {
            return NO_INDEX;
        }
        Task task = running();
        if (task == null) {
            return NO_STATE;
        }
        Queue counter = queue(3, name);
        if (counter.number == 0) {
            move(task, 3, name);
            return "1";
        }
        counter.number--;
        return "0";
    }

    private String up(int name) {
        if (!isIn(name, counters)) {
            return NO_INDEX;
        }
        Queue counter = queue(3, name);
        if (counter.tasks.isEmpty()) {
            counter.number++;
        }
        return wake(foremost(counter));
    }

    private String send(int name, int word) {
        if (!isIn(name, boxes)) {
            return NO_INDEX;
        }
        Task task = running();
        if (task == null) {
            return NO_STATE;
        }
        Task receiver = foremost(queue(5, name));
        Queue box = queue(4, name);
        if (receiver != null) {
            receiver.got = word;
            wake(receiver);
        } else if (box.words.size() < 4) {
            box.words.add(word);
        } else {
            task.carried = word;
            move(task, 4, name);
            return "1";
        }
        return "0";
    }

    private String receive(int name) {
        if (!isIn(name, boxes)) {
            return NO_INDEX;
        }
        Task task = running();
        if (task == null) {
            return NO_STATE;
        }
        Queue box = queue(4, name);
        if (box.words.isEmpty()) {
            move(task, 5, name);
            return "1";
        }
        task.got = box.words.remove(0);
        Task sender = foremost(box);
        if (sender != null) {
            box.words.add(sender.carried);
            wake(sender);
        }
        return "0";
    }

    private String sleep(int ticks) {
        Task task = running();
        if (task == null) {
            return NO_STATE;
        }
        if (ticks < 1 || ticks > 1000) {
            return NO_ARGUMENT;
        }
        task.ticks = ticks;
        move(task, 6, -1);
        return nameOf(running());
    }

    private String end() {
        Task task = running();
        if (task == null) {
            return NO_STATE;
        }
        if (owned(task).size() > 0) {
            return NO_ARGUMENT;
        }
        task.base = 0;
        task.got = 0;
        move(task, 0, -1);
        return nameOf(running());
    }

    private String tick(int many) {
        if (many < 0 || many > 1000) {
            return NO_ARGUMENT;
        }
        int woken = 0;
        for (int i = 0; i < many; i++) {
            for (Task task : tasks) {
                if (task.in.state == 6 && --task.ticks == 0) {
                    wake(task);
                    woken++;
                }
            }
        }
        return "" + woken;
    }

    private String told(int name, int what) {
        if (!isIn(name, 16)) {
            return NO_INDEX;
        }
        if (!isIn(what, 7)) {
            return NO_ARGUMENT;
        }
        Task task = tasks[name];
        int[] all = {
            task.in.state, task.base, effective(task), task.in.thing, task.ticks, task.got, owned(task).size()
        };
        return "" + all[what];
    }

    private String first(int kind, int name) {
        if (kind < 2 || kind > 5) {
            return NO_ARGUMENT;
        }
        int many = kind == 2 ? locks : kind == 3 ? counters : boxes;
        return isIn(name, many) ? nameOf(foremost(queue(kind, name))) : NO_INDEX;
    }

    private static boolean isIn(int k, int many) {
        return k >= 0 && k < many;
    }

    private static String nameOf(Task task) {
        return task == null ? "-1" : "" + task.name;
    }

    private Queue queue(int state, int thing) {
        for (Queue queue : queues) {
            if (queue.state == state && queue.thing == thing) {
                return queue;
            }
        }
        Queue queue = new Queue(state, thing);
        queues.add(queue);
        return queue;
    }

    private void move(Task task, int state, int thing) {
        if (task.in != null) {
            task.in.tasks.remove(task);
        }
        task.in = queue(state, thing);
        task.in.tasks.add(task);
    }

    private String wake(Task task) {
        if (task != null) {
            move(task, 1, -1);
        }
        return nameOf(task);
    }

    private Task running() {
        return foremost(queue(1, -1));
    }

    private Task foremost(Queue queue) {
        Task best = null;
        for (Task task : queue.tasks) {
            if (best == null || effective(task) > effective(best)) {
                best = task;
            }
        }
        return best;
    }

    private List<Queue> owned(Task task) {
        List<Queue> owned = new ArrayList<>();
        for (Queue queue : queues) {
            if (queue.owner == task) {
                owned.add(queue);
            }
        }
        return owned;
    }

    private int effective(Task task) {
        int greatest = task.base;
        for (Queue lock : owned(task)) {
            for (Task waiter : lock.tasks) {
                greatest = Math.max(greatest, effective(waiter));
            }
        }
        return greatest;
    }
}
