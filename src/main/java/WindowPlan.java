public final class WindowPlan {
    public static final int REFUSED = -1;
    public static final int FULL = -2;
    public static final int OFF = 0;
    public static final int ON = 1;
    public static final int STOPPED = 2;
    public static final int RESTING = 0;
    public static final int READY = 1;
    public static final int WAITING = 2;

    private static final int PARTITIONS = 3;
    private static final int PORTS = 4;
    private static final int SEMAPHORES = 4;
    private static final int MOST_WINDOWS = 8;
    private static final int MOST_PROCESSES = 8;
    private static final int MOST_ORDERS = 8;
    private static final int MOST_MESSAGES = 4;
    private static final int MOST_LENGTH = 30;
    private static final int MOST_PRIORITY = 9;
    private static final int MOST_PERIOD = 60;
    private static final int MOST_LIMIT = 60;
    private static final int MOST_WORK = 20;
    private static final int MOST_COUNT = 9;
    private static final int MOST_TICKS = 60;

    private static final int WORK = 0;
    private static final int SEND = 1;
    private static final int TAKE = 2;
    private static final int UP = 3;
    private static final int DOWN = 4;

    private static final int NOTE = 0;
    private static final int AGAIN = 1;
    private static final int STOP = 2;

    private static final int NONE = -1;

    private final WindowRow windows;
    private final Partition[] partitions;
    private final Task[] tasks;
    private final Port[] ports;
    private final int[] semaphores;
    private int taskCount;
    private int time;
    private int lost;
    private int idle;
    private long turns;

    public WindowPlan() {
        windows = new WindowRow();
        partitions = new Partition[PARTITIONS];
        for (int i = 0; i < PARTITIONS; i++) {
            partitions[i] = new Partition();
        }
        tasks = new Task[MOST_PROCESSES];
        for (int i = 0; i < MOST_PROCESSES; i++) {
            tasks[i] = new Task(i);
        }
        ports = new Port[PORTS];
        for (int i = 0; i < PORTS; i++) {
            ports[i] = new Port();
        }
        semaphores = new int[SEMAPHORES];
    }

    public int window(int partition, int length) {
        if (!isPartition(partition) || !within(length, 1, MOST_LENGTH) || !allOff()) {
            return REFUSED;
        }
        if (windows.size == MOST_WINDOWS) {
            return FULL;
        }
        windows.add(partition, length);
        return windows.size;
    }

    public int process(int partition, int priority, int period, int limit) {
        if (!isPartition(partition) || !within(priority, 0, MOST_PRIORITY)) {
            return REFUSED;
        }
        if (!within(period, 0, MOST_PERIOD) || !within(limit, 0, MOST_LIMIT) || !allOff()) {
            return REFUSED;
        }
        if (taskCount == MOST_PROCESSES) {
            return FULL;
        }
        tasks[taskCount].define(partition, priority, period, limit);
        taskCount++;
        return taskCount - 1;
    }

    public int order(int process, int order, int number) {
        if (!isProcess(process) || !isOrder(order, number) || !allOff()) {
            return REFUSED;
        }
        Program program = tasks[process].program;
        if (program.size == MOST_ORDERS) {
            return FULL;
        }
        program.add(order, number);
        return program.size;
    }

    public int action(int partition, int action) {
        if (!isPartition(partition) || !within(action, NOTE, STOP)) {
            return REFUSED;
        }
        partitions[partition].action = action;
        return 0;
    }

    public int on(int partition) {
        if (!isPartition(partition) || isOn(partition)) {
            return REFUSED;
        }
        partitions[partition].mode = ON;
        restAll(partition);
        for (int i = 0; i < taskCount; i++) {
            if (tasks[i].partition == partition && tasks[i].period > 0) {
                tasks[i].nextRelease = time;
            }
        }
        return 0;
    }

    public int start(int process) {
        if (!isProcess(process)) {
            return REFUSED;
        }
        Task task = tasks[process];
        if (task.period > 0 || task.stage != RESTING || !isOn(task.partition)) {
            return REFUSED;
        }
        task.release(time, newTurn());
        return 0;
    }

    public int run(int n) {
        if (!within(n, 1, MOST_TICKS)) {
            return REFUSED;
        }
        for (int i = 0; i < n; i++) {
            tick();
        }
        return time;
    }

    public int partition(int partition) {
        return isPartition(partition) ? partitions[partition].mode : REFUSED;
    }

    public int state(int process, int what) {
        return isProcess(process) ? tasks[process].tell(what) : REFUSED;
    }

    public int port(int port) {
        return within(port, 0, PORTS - 1) ? ports[port].size : REFUSED;
    }

    public int semaphore(int semaphore) {
        return within(semaphore, 0, SEMAPHORES - 1) ? semaphores[semaphore] : REFUSED;
    }

    public int count(int what) {
        switch (what) {
            case 0:
                return time;
            case 1:
                return windows.size == 0 ? REFUSED : windows.partitionAt(time);
            case 2:
                return windows.size == 0 ? REFUSED : windows.leftAt(time);
            case 3:
                return lost;
            case 4:
                return idle;
            case 5:
                return taskCount;
            case 6:
                return windows.size;
            default:
                return REFUSED;
        }
    }

    private static boolean within(int value, int least, int most) {
        return value >= least && value <= most;
    }

    private static boolean isPartition(int partition) {
        return within(partition, 0, PARTITIONS - 1);
    }

    private boolean isProcess(int process) {
        return within(process, 0, taskCount - 1);
    }

    private static boolean isOrder(int order, int number) {
        switch (order) {
            case WORK:
                return within(number, 1, MOST_WORK);
            case SEND:
            case TAKE:
                return within(number, 0, PORTS - 1);
            case UP:
            case DOWN:
                return within(number, 0, SEMAPHORES - 1);
            default:
                return false;
        }
    }

    private boolean isOn(int partition) {
        return partitions[partition].mode == ON;
    }

    private boolean allOff() {
        for (int i = 0; i < PARTITIONS; i++) {
            if (partitions[i].mode != OFF) {
                return false;
            }
        }
        return true;
    }

    // The time alone can't tell who was READY or WAITING first: many become so in one tick.
    private long newTurn() {
        turns++;
        return turns;
    }

    private void restAll(int partition) {
        for (int i = 0; i < taskCount; i++) {
            if (tasks[i].partition == partition) {
                tasks[i].rest();
            }
        }
    }

    private void tick() {
        releaseDue();
        missDue();
        giveProcessor();
        time++;
    }

    private void releaseDue() {
        for (int i = 0; i < taskCount; i++) {
            Task task = tasks[i];
            if (task.period > 0 && isOn(task.partition) && task.nextRelease == time) {
                if (task.stage == RESTING) {
                    task.release(time, newTurn());
                } else {
                    task.skipped++;
                }
                task.nextRelease = time + task.period;
            }
        }
    }

    private void missDue() {
        for (int i = 0; i < taskCount; i++) {
            Task task = tasks[i];
            if (isOn(task.partition) && task.stage != RESTING && task.deadline == time) {
                miss(task);
            }
        }
    }

    private void miss(Task task) {
        Partition partition = partitions[task.partition];
        task.missed++;
        task.deadline = NONE;
        if (partition.action == AGAIN) {
            task.beginAnew(newTurn());
        } else if (partition.action == STOP) {
            partition.mode = STOPPED;
            restAll(task.partition);
        }
    }

    // No process begins anew inside of this, so all their orders together bound the loop.
    private void giveProcessor() {
        int partition = windows.partitionAt(time);
        if (partition == NONE || !isOn(partition)) {
            return;
        }
        for (int done = 0; done <= MOST_PROCESSES * MOST_ORDERS; done++) {
            Task first = firstReady(partition);
            if (first == null) {
                break;
            }
            if (doOrder(first)) {
                return;
            }
        }
        idle++;
    }

    // Answers whether it was a tick of WORK, which ends the use of the processor.
    private boolean doOrder(Task task) {
        int number = task.program.numbers[task.next];
        switch (task.program.orders[task.next]) {
            case WORK:
                task.work(number);
                return true;
            case SEND:
                send(task, number);
                break;
            case TAKE:
                take(task, number);
                break;
            case UP:
                up(task, number);
                break;
            default:
                down(task, number);
                break;
        }
        return false;
    }

    private void send(Task task, int port) {
        int message = task.number + MOST_PROCESSES * task.rounds;
        Task first = firstWaiting(TAKE, port);
        if (first != null) {
            first.letter = message;
            first.becomeReady(newTurn());
            first.advance();
        } else if (ports[port].size == MOST_MESSAGES) {
            lost++;
        } else {
            ports[port].put(message);
        }
        task.advance();
    }

    private void take(Task task, int port) {
        if (ports[port].size == 0) {
            task.becomeWaiting(newTurn());
        } else {
            task.letter = ports[port].takeOldest();
            task.advance();
        }
    }

    private void up(Task task, int semaphore) {
        Task first = firstWaiting(DOWN, semaphore);
        if (first != null) {
            first.becomeReady(newTurn());
            first.advance();
        } else if (semaphores[semaphore] < MOST_COUNT) {
            semaphores[semaphore]++;
        }
        task.advance();
    }

    private void down(Task task, int semaphore) {
        if (semaphores[semaphore] == 0) {
            task.becomeWaiting(newTurn());
        } else {
            semaphores[semaphore]--;
            task.advance();
        }
    }

    private Task firstReady(int partition) {
        Task first = null;
        for (int i = 0; i < taskCount; i++) {
            Task task = tasks[i];
            if (task.partition == partition && task.stage == READY && task.comesBefore(first)) {
                first = task;
            }
        }
        return first;
    }

    private Task firstWaiting(int order, int number) {
        Task first = null;
        for (int i = 0; i < taskCount; i++) {
            Task task = tasks[i];
            if (task.waitsAt(order, number) && task.comesBefore(first)) {
                first = task;
            }
        }
        return first;
    }

    private static final class Partition {
        int mode = OFF;
        int action = NOTE;
    }

    private static final class WindowRow {
        final int[] partitions = new int[MOST_WINDOWS];
        // Where each window ends, counted from the begin of the row.
        final int[] ends = new int[MOST_WINDOWS];
        int size;

        void add(int partition, int length) {
            ends[size] = size == 0 ? length : ends[size - 1] + length;
            partitions[size] = partition;
            size++;
        }

        int partitionAt(int time) {
            return size == 0 ? NONE : partitions[indexOf(offsetAt(time))];
        }

        int leftAt(int time) {
            return size == 0 ? 0 : ends[indexOf(offsetAt(time))] - offsetAt(time);
        }

        // Called only with a window there, so the row's length is not 0.
        private int offsetAt(int time) {
            return Math.floorMod(time, ends[size - 1]);
        }

        private int indexOf(int offset) {
            int index = 0;
            while (index < size - 1 && offset >= ends[index]) {
                index++;
            }
            return index;
        }
    }

    private static final class Port {
        final int[] messages = new int[MOST_MESSAGES];
        int size;

        void put(int message) {
            messages[size] = message;
            size++;
        }

        int takeOldest() {
            int oldest = messages[0];
            size--;
            for (int i = 0; i < size; i++) {
                messages[i] = messages[i + 1];
            }
            return oldest;
        }
    }

    private static final class Program {
        final int[] orders = new int[MOST_ORDERS];
        final int[] numbers = new int[MOST_ORDERS];
        int size;

        void add(int order, int number) {
            orders[size] = order;
            numbers[size] = number;
            size++;
        }
    }

    // A PROCESS of the document; the Java library has a class of that name already.
    private static final class Task {
        final int number;
        final Program program = new Program();
        int partition;
        int priority;
        int period;
        int limit;
        int stage = RESTING;
        int next;
        int ticksDone;
        long since;
        int rounds;
        int deadline = NONE;
        int missed;
        int skipped;
        int worked;
        int letter;
        int nextRelease = NONE;

        Task(int number) {
            this.number = number;
        }

        void define(int partition, int priority, int period, int limit) {
            this.partition = partition;
            this.priority = priority;
            this.period = period;
            this.limit = limit;
        }

        void release(int time, long turn) {
            rounds++;
            deadline = limit > 0 ? time + limit : NONE;
            beginAnew(turn);
            if (program.size == 0) {
                rest();
            }
        }

        void beginAnew(long turn) {
            becomeReady(turn);
            next = 0;
            ticksDone = 0;
        }

        void rest() {
            stage = RESTING;
            next = 0;
            ticksDone = 0;
            deadline = NONE;
        }

        void becomeReady(long turn) {
            stage = READY;
            since = turn;
        }

        void becomeWaiting(long turn) {
            stage = WAITING;
            since = turn;
        }

        void work(int ticks) {
            worked++;
            ticksDone++;
            if (ticksDone >= ticks) {
                advance();
            }
        }

        void advance() {
            next++;
            ticksDone = 0;
            if (next >= program.size) {
                rest();
            }
        }

        boolean waitsAt(int order, int number) {
            return stage == WAITING && program.orders[next] == order && program.numbers[next] == number;
        }

        // Null is the best so far of a search that has found none yet.
        boolean comesBefore(Task other) {
            if (other == null) {
                return true;
            }
            return priority == other.priority ? since < other.since : priority > other.priority;
        }

        int tell(int what) {
            switch (what) {
                case 0:
                    return stage;
                case 1:
                    return next;
                case 2:
                    return ticksDone;
                case 3:
                    return rounds;
                case 4:
                    return deadline;
                case 5:
                    return missed;
                case 6:
                    return skipped;
                case 7:
                    return worked;
                case 8:
                    return letter;
                case 9:
                    return nextRelease;
                default:
                    return REFUSED;
            }
        }
    }
}
