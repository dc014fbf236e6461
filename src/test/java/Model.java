import java.util.ArrayDeque;
import java.util.ArrayList;
import java.util.Deque;
import java.util.List;

/**
 * A second reading of the document, held quite otherwise than the class: READY and WAITING processes stand in queues
 * in the order in which they came, so that RANK is the first of the highest priority in a queue.
 */
final class Model {
    /** The methods of the document's face, in its order. */
    static final String[] NAMES = {
        "window", "process", "order", "action", "on", "start", "run", "partition", "state", "port", "semaphore", "count",
    };

    private static final class P {
        int number;
        int partition;
        int priority;
        int period;
        int limit;
        List<int[]> program = new ArrayList<>();
        int at;
        int done;
        int rounds;
        Integer deadline;
        int missed;
        int skipped;
        int worked;
        int letter;
        Integer release;
        List<P> queue;
    }

    private final List<int[]> windows = new ArrayList<>();
    private final List<P> all = new ArrayList<>();
    private final int[] states = new int[3];
    private final int[] actions = new int[3];
    private final List<List<P>> ready = queues(3);
    private final List<List<P>> atPort = queues(4);
    private final List<List<P>> atSemaphore = queues(4);
    private final List<Deque<Integer>> ports = new ArrayList<>();
    private final int[] semaphores = new int[4];
    private int time;
    private int lost;
    private int idle;

    Model() {
        for (int i = 0; i < 4; i++) {
            ports.add(new ArrayDeque<>());
        }
    }

    private static List<List<P>> queues(int n) {
        List<List<P>> row = new ArrayList<>();
        for (int i = 0; i < n; i++) {
            row.add(new ArrayList<>());
        }
        return row;
    }

    /** A call by its place in the document's face, with as many of the arguments as it takes. */
    int call(int method, int a, int b, int c, int d) {
        switch (method) {
            case 0: return window(a, b);
            case 1: return process(a, b, c, d);
            case 2: return order(a, b, c);
            case 3: return action(a, b);
            case 4: return on(a);
            case 5: return start(a);
            case 6: return run(a);
            case 7: return a < 0 || a > 2 ? -1 : states[a];
            case 8: return state(a, b);
            case 9: return a < 0 || a > 3 ? -1 : ports.get(a).size();
            case 10: return a < 0 || a > 3 ? -1 : semaphores[a];
            default: return count(a);
        }
    }

    static int call(WindowPlan plan, int method, int a, int b, int c, int d) {
        switch (method) {
            case 0: return plan.window(a, b);
            case 1: return plan.process(a, b, c, d);
            case 2: return plan.order(a, b, c);
            case 3: return plan.action(a, b);
            case 4: return plan.on(a);
            case 5: return plan.start(a);
            case 6: return plan.run(a);
            case 7: return plan.partition(a);
            case 8: return plan.state(a, b);
            case 9: return plan.port(a);
            case 10: return plan.semaphore(a);
            default: return plan.count(a);
        }
    }

    private boolean fixed() {
        return states[0] + states[1] + states[2] > 0;
    }

    private int window(int partition, int length) {
        if (partition < 0 || partition > 2 || length < 1 || length > 30 || fixed()) {
            return -1;
        }
        if (windows.size() >= 8) {
            return -2;
        }
        windows.add(new int[] {partition, length});
        return windows.size();
    }

    private int process(int partition, int priority, int period, int limit) {
        boolean good = partition >= 0 && partition < 3 && priority >= 0 && priority < 10 && period >= 0 && period <= 60
            && limit >= 0 && limit <= 60;
        if (!good || fixed()) {
            return -1;
        }
        if (all.size() >= 8) {
            return -2;
        }
        P p = new P();
        p.number = all.size();
        p.partition = partition;
        p.priority = priority;
        p.period = period;
        p.limit = limit;
        all.add(p);
        return p.number;
    }

    private int order(int process, int order, int number) {
        boolean good = order == 0 ? number >= 1 && number <= 20 : order >= 1 && order <= 4 && number >= 0 && number <= 3;
        if (process < 0 || process >= all.size() || !good || fixed()) {
            return -1;
        }
        List<int[]> program = all.get(process).program;
        if (program.size() >= 8) {
            return -2;
        }
        program.add(new int[] {order, number});
        return program.size();
    }

    private int action(int partition, int action) {
        if (partition < 0 || partition > 2 || action < 0 || action > 2) {
            return -1;
        }
        actions[partition] = action;
        return 0;
    }

    private int on(int partition) {
        if (partition < 0 || partition > 2 || states[partition] == 1) {
            return -1;
        }
        states[partition] = 1;
        for (P p : all) {
            if (p.partition == partition) {
                over(p);
                p.release = p.period == 0 ? null : Integer.valueOf(time);
            }
        }
        return 0;
    }

    private int start(int process) {
        if (process < 0 || process >= all.size()) {
            return -1;
        }
        P p = all.get(process);
        if (p.period != 0 || p.queue != null || states[p.partition] != 1) {
            return -1;
        }
        release(p);
        return 0;
    }

    private int run(int n) {
        if (n < 1 || n > 60) {
            return -1;
        }
        for (int i = 0; i < n; i++) {
            tick();
        }
        return time;
    }

    private int state(int process, int what) {
        if (process < 0 || process >= all.size()) {
            return -1;
        }
        P p = all.get(process);
        boolean isReady = p.queue == ready.get(p.partition);
        switch (what) {
            case 0: return p.queue == null ? 0 : isReady ? 1 : 2;
            case 1: return p.queue == null ? 0 : p.at;
            case 2: return p.queue == null ? 0 : p.done;
            case 3: return p.rounds;
            case 4: return p.deadline == null ? -1 : p.deadline;
            case 5: return p.missed;
            case 6: return p.skipped;
            case 7: return p.worked;
            case 8: return p.letter;
            case 9: return p.release == null ? -1 : p.release;
            default: return -1;
        }
    }

    private int count(int what) {
        switch (what) {
            case 0: return time;
            case 1: return windows.isEmpty() ? -1 : windows.get(nowAndLeft()[0])[0];
            case 2: return windows.isEmpty() ? -1 : nowAndLeft()[1];
            case 3: return lost;
            case 4: return idle;
            case 5: return all.size();
            case 6: return windows.size();
            default: return -1;
        }
    }

    /** Walks from time 0 on, window by window, to the one that holds the time. */
    private int[] nowAndLeft() {
        int begin = 0;
        int index = 0;
        while (begin + windows.get(index)[1] <= time) {
            begin += windows.get(index)[1];
            index = (index + 1) % windows.size();
        }
        return new int[] {index, begin + windows.get(index)[1] - time};
    }

    private static void stand(P p, List<P> queue) {
        if (p.queue != null) {
            p.queue.remove(p);
        }
        p.queue = queue;
        if (queue != null) {
            queue.add(p);
        }
    }

    private static P first(List<P> queue) {
        P best = null;
        for (P p : queue) {
            if (best == null || p.priority > best.priority) {
                best = p;
            }
        }
        return best;
    }

    private void over(P p) {
        stand(p, null);
        p.deadline = null;
        p.at = 0;
        p.done = 0;
    }

    private void again(P p) {
        stand(p, ready.get(p.partition));
        p.at = 0;
        p.done = 0;
    }

    private void release(P p) {
        p.rounds++;
        if (!p.program.isEmpty()) {
            again(p);
            p.deadline = p.limit == 0 ? null : Integer.valueOf(time + p.limit);
        }
    }

    private void next(P p) {
        p.at++;
        p.done = 0;
        if (p.at == p.program.size()) {
            over(p);
        }
    }

    private void tick() {
        for (P p : all) {
            if (states[p.partition] == 1 && p.release != null && p.release == time) {
                if (p.queue == null) {
                    release(p);
                } else {
                    p.skipped++;
                }
                p.release += p.period;
            }
        }
        for (P p : all) {
            if (states[p.partition] == 1 && p.queue != null && p.deadline != null && p.deadline == time) {
                p.missed++;
                p.deadline = null;
                if (actions[p.partition] == 1) {
                    again(p);
                }
                if (actions[p.partition] == 2) {
                    states[p.partition] = 2;
                    all.stream().filter(q -> q.partition == p.partition).forEach(this::over);
                }
            }
        }
        int now = count(1);
        if (now >= 0 && states[now] == 1) {
            boolean worked = false;
            while (!worked && !ready.get(now).isEmpty()) {
                worked = does(first(ready.get(now)));
            }
            idle += worked ? 0 : 1;
        }
        time++;
    }

    private boolean does(P p) {
        int order = p.program.get(p.at)[0];
        int number = p.program.get(p.at)[1];
        if (order == 0) {
            p.worked++;
            p.done++;
            if (p.done == number) {
                next(p);
            }
            return true;
        }
        if (order == 1) {
            int message = p.number + 8 * p.rounds;
            P taker = first(atPort.get(number));
            if (taker != null) {
                taker.letter = message;
                stand(taker, ready.get(taker.partition));
                next(taker);
            } else if (ports.get(number).size() < 4) {
                ports.get(number).addLast(message);
            } else {
                lost++;
            }
            next(p);
        } else if (order == 2) {
            if (ports.get(number).isEmpty()) {
                stand(p, atPort.get(number));
            } else {
                p.letter = ports.get(number).removeFirst();
                next(p);
            }
        } else if (order == 3) {
            P waiter = first(atSemaphore.get(number));
            if (waiter != null) {
                stand(waiter, ready.get(waiter.partition));
                next(waiter);
            } else {
                semaphores[number] = Math.min(9, semaphores[number] + 1);
            }
            next(p);
        } else if (semaphores[number] == 0) {
            stand(p, atSemaphore.get(number));
        } else {
            semaphores[number]--;
            next(p);
        }
        return false;
    }
}
