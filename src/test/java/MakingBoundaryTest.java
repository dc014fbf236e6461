/** Promises 1 to 4: each sentence on a boundary of what is made, with a test of its own. */
final class MakingBoundaryTest {
    private static final int[] FAR = {Integer.MIN_VALUE, -65536, -256, -8, 64, 256, 65536, Integer.MAX_VALUE};

    public static void main(String[] args) {
        timeIsZeroAtFirst();
        partitionsAreOffAtFirst();
        noProcessNoWindowAtFirst();
        processesRestAtFirst();
        portsAreEmptyAtFirst();
        semaphoresAreZeroAtFirst();

        atMostEightWindows();
        windowOfPartitionZeroToTwo();
        windowOfLengthOneToThirty();
        windowOnlyWhileAllAreOff();
        windowIsRefusedBeforeItIsFull();

        atMostEightProcesses();
        processOfPartitionZeroToTwo();
        priorityZeroToNine();
        periodZeroToSixty();
        limitZeroToSixty();
        processOnlyWhileAllAreOff();
        processIsRefusedBeforeItIsFull();
        newProgramIsEmpty();

        atMostEightOrders();
        eachProcessHasEightOrders();
        orderOfAProcessThatIsThere();
        ordersZeroToFour();
        workOneToTwenty();
        portsZeroToThree();
        semaphoresZeroToThree();
        orderOnlyWhileAllAreOff();
        orderIsRefusedBeforeItIsFull();
        Check.end();
    }

    private static void timeIsZeroAtFirst() {
        Check.promise(1, "TIME is a number of ticks, 0 at first");
        Check.due("the time", new WindowPlan().count(0), 0);
    }

    private static void partitionsAreOffAtFirst() {
        Check.promise(1, "A PARTITION is OFF (at first)");
        for (int i = 0; i <= 2; i++) {
            Check.due("partition " + i, new WindowPlan().partition(i), WindowPlan.OFF);
        }
    }

    private static void noProcessNoWindowAtFirst() {
        Check.promise(1, "makes an object in the state that the terms give");
        WindowPlan plan = new WindowPlan();
        Check.due("processes", plan.count(5), 0);
        Check.due("windows", plan.count(6), 0);
        Check.due("messages LOST", plan.count(3), 0);
        Check.due("ticks without WORK", plan.count(4), 0);
    }

    private static void processesRestAtFirst() {
        Check.promise(1, "A process is RESTING (at first); its LETTER (0 at first)");
        WindowPlan plan = new WindowPlan();
        Check.made(plan, 2, 9, 60, 60, 0, 20);
        Check.due("all its answers", Check.process(plan, 0), "0 0 0 0 -1 0 0 0 0 -1");
    }

    private static void portsAreEmptyAtFirst() {
        Check.promise(1, "PORTS have a row of at most 4 messages, empty at first");
        for (int i = 0; i <= 3; i++) {
            Check.due("port " + i, new WindowPlan().port(i), 0);
        }
    }

    private static void semaphoresAreZeroAtFirst() {
        Check.promise(1, "semaphores a count 0 .. 9, 0 at first");
        for (int i = 0; i <= 3; i++) {
            Check.due("semaphore " + i, new WindowPlan().semaphore(i), 0);
        }
    }

    private static WindowPlan withEightWindows() {
        WindowPlan plan = new WindowPlan();
        for (int i = 1; i <= 8; i++) {
            Check.due("window " + i, plan.window(2, 30), i);
        }
        return plan;
    }

    private static void atMostEightWindows() {
        Check.promise(2, "WINDOWS: a row of at most 8; FULL");
        WindowPlan plan = withEightWindows();
        Check.due("windows", plan.count(6), 8);
        Check.due("a ninth", plan.window(0, 1), WindowPlan.FULL);
        Check.due("a ninth once more", plan.window(2, 30), WindowPlan.FULL);
        Check.due("windows", plan.count(6), 8);
        plan.run(60);
        plan.run(60);
        plan.run(60);
        plan.run(59);
        Check.due("the last tick of the eighth", plan.count(2), 1);
        plan.run(1);
        Check.due("the first one again, not a ninth", plan.count(1), 2);
        Check.due("all of the first one", plan.count(2), 30);
    }

    private static void windowOfPartitionZeroToTwo() {
        Check.promise(2, "each with a partition 0 .. 2; REFUSED for numbers out of range");
        WindowPlan plan = new WindowPlan();
        Check.due("-1", plan.window(-1, 1), WindowPlan.REFUSED);
        Check.due("3", plan.window(3, 1), WindowPlan.REFUSED);
        for (int far : FAR) {
            Check.due("partition " + far, plan.window(far, 1), WindowPlan.REFUSED);
        }
        for (int i = 0; i <= 2; i++) {
            Check.due("partition " + i, plan.window(i, 1), i + 1);
        }
    }

    private static void windowOfLengthOneToThirty() {
        Check.promise(2, "and a length 1 .. 30; REFUSED for numbers out of range");
        WindowPlan plan = new WindowPlan();
        Check.due("-1", plan.window(0, -1), WindowPlan.REFUSED);
        Check.due("0", plan.window(0, 0), WindowPlan.REFUSED);
        Check.due("31", plan.window(0, 31), WindowPlan.REFUSED);
        for (int far : FAR) {
            Check.due("length " + far, plan.window(0, far), WindowPlan.REFUSED);
        }
        Check.due("1", plan.window(0, 1), 1);
        Check.due("30", plan.window(1, 30), 2);
        plan.run(1);
        Check.due("all of the long one", plan.count(2), 30);
    }

    /** A plan with nothing wrong but that the partition is ON, and then that it is STOPPED. */
    private static WindowPlan on(int partition) {
        WindowPlan plan = new WindowPlan();
        Check.made(plan, partition, 0, 0, 1, 4, 0);
        plan.action(partition, 2);
        plan.on(partition);
        return plan;
    }

    private static WindowPlan stopped(int partition) {
        WindowPlan plan = on(partition);
        plan.start(0);
        plan.run(2);
        Check.due("its partition", plan.partition(partition), WindowPlan.STOPPED);
        return plan;
    }

    private static void windowOnlyWhileAllAreOff() {
        Check.promise(2, "Windows are made only while all partitions are OFF; REFUSED if a partition is not OFF");
        for (int i = 0; i <= 2; i++) {
            Check.due(i + " is ON", on(i).window((i + 1) % 3, 1), WindowPlan.REFUSED);
            Check.due(i + " is STOPPED", stopped(i).window((i + 1) % 3, 1), WindowPlan.REFUSED);
        }
        WindowPlan plan = new WindowPlan();
        plan.run(60);
        plan.action(1, 2);
        Check.due("time alone doesn't matter", plan.window(0, 1), 1);
    }

    private static void windowIsRefusedBeforeItIsFull() {
        Check.promise(2, "REFUSED for numbers out of range, and if a partition is not OFF; FULL");
        WindowPlan plan = withEightWindows();
        Check.due("a ninth of partition 3", plan.window(3, 1), WindowPlan.REFUSED);
        Check.due("a ninth of length 31", plan.window(0, 31), WindowPlan.REFUSED);
        plan.on(1);
        Check.due("a ninth with a partition ON", plan.window(0, 1), WindowPlan.REFUSED);
    }

    private static WindowPlan withEightProcesses() {
        WindowPlan plan = new WindowPlan();
        for (int i = 0; i <= 7; i++) {
            Check.due("process " + i, plan.process(2, 9, 60, 60), i);
        }
        return plan;
    }

    private static void atMostEightProcesses() {
        Check.promise(3, "PROCESSES 0, 1, .. as they are made, at most 8; FULL");
        WindowPlan plan = withEightProcesses();
        Check.due("processes", plan.count(5), 8);
        Check.due("a ninth", plan.process(0, 0, 0, 0), WindowPlan.FULL);
        Check.due("processes", plan.count(5), 8);
        Check.due("no process 8", plan.state(8, 0), WindowPlan.REFUSED);
        Check.due("process 7", plan.state(7, 0), WindowPlan.RESTING);
    }

    private static void processOfPartitionZeroToTwo() {
        Check.promise(3, "each of a partition; REFUSED likewise (numbers out of range)");
        WindowPlan plan = new WindowPlan();
        Check.due("-1", plan.process(-1, 0, 0, 0), WindowPlan.REFUSED);
        Check.due("3", plan.process(3, 0, 0, 0), WindowPlan.REFUSED);
        for (int far : FAR) {
            Check.due("partition " + far, plan.process(far, 0, 0, 0), WindowPlan.REFUSED);
        }
        for (int i = 0; i <= 2; i++) {
            Check.due("partition " + i, plan.process(i, 0, 0, 0), i);
        }
    }

    private static void priorityZeroToNine() {
        Check.promise(3, "with a priority 0 .. 9");
        WindowPlan plan = new WindowPlan();
        Check.due("-1", plan.process(0, -1, 0, 0), WindowPlan.REFUSED);
        Check.due("10", plan.process(0, 10, 0, 0), WindowPlan.REFUSED);
        for (int far : FAR) {
            Check.due("priority " + far, plan.process(0, far, 0, 0), WindowPlan.REFUSED);
        }
        plan.window(0, 1);
        Check.due("0", Check.made(plan, 0, 0, 0, 0, 0, 1), 0);
        Check.due("8", Check.made(plan, 0, 8, 0, 0, 0, 1), 1);
        Check.due("9", Check.made(plan, 0, 9, 0, 0, 0, 1), 2);
        plan.on(0);
        for (int i = 0; i <= 2; i++) {
            plan.start(i);
        }
        for (int i = 2; i >= 0; i--) {
            plan.run(1);
            Check.due("the highest of those left has worked", plan.state(i, 7), 1);
        }
    }

    private static void periodZeroToSixty() {
        Check.promise(3, "a period 0 .. 60 (0: none)");
        WindowPlan plan = new WindowPlan();
        Check.due("-1", plan.process(0, 0, -1, 0), WindowPlan.REFUSED);
        Check.due("61", plan.process(0, 0, 61, 0), WindowPlan.REFUSED);
        for (int far : FAR) {
            Check.due("period " + far, plan.process(0, 0, far, 0), WindowPlan.REFUSED);
        }
        Check.due("0", plan.process(0, 0, 0, 0), 0);
        Check.due("1", plan.process(0, 0, 1, 0), 1);
        Check.due("60", plan.process(0, 0, 60, 0), 2);
        plan.on(0);
        Check.due("one with a period is not started", plan.start(1), WindowPlan.REFUSED);
        plan.run(60);
        plan.run(1);
        Check.due("without a period it is not released", plan.state(0, 3), 0);
        Check.due("nor has it a next release", plan.state(0, 9), -1);
        Check.due("in each tick", plan.state(1, 3), 61);
        Check.due("at 0 and 60", plan.state(2, 3), 2);
        Check.due("its next", plan.state(2, 9), 120);
    }

    private static void limitZeroToSixty() {
        Check.promise(3, "a limit 0 .. 60 (0: none)");
        WindowPlan plan = new WindowPlan();
        Check.due("-1", plan.process(0, 0, 0, -1), WindowPlan.REFUSED);
        Check.due("61", plan.process(0, 0, 0, 61), WindowPlan.REFUSED);
        for (int far : FAR) {
            Check.due("limit " + far, plan.process(0, 0, 0, far), WindowPlan.REFUSED);
        }
        int[] limits = {0, 1, 60};
        int[] deadlines = {-1, 4, 63};
        for (int i = 0; i <= 2; i++) {
            Check.due("limit " + limits[i], Check.made(plan, 0, 0, 0, limits[i], 4, 0), i);
        }
        plan.run(3);
        plan.on(0);
        for (int i = 0; i <= 2; i++) {
            plan.start(i);
            Check.due("deadline by limit " + limits[i], plan.state(i, 4), deadlines[i]);
        }
    }

    private static void processOnlyWhileAllAreOff() {
        Check.promise(3, "processes are made only while all partitions are OFF");
        for (int i = 0; i <= 2; i++) {
            Check.due(i + " is ON", on(i).process((i + 1) % 3, 0, 0, 0), WindowPlan.REFUSED);
            Check.due(i + " is STOPPED", stopped(i).process((i + 1) % 3, 0, 0, 0), WindowPlan.REFUSED);
        }
        WindowPlan plan = new WindowPlan();
        plan.run(60);
        Check.due("time alone doesn't matter", plan.process(0, 0, 0, 0), 0);
    }

    private static void processIsRefusedBeforeItIsFull() {
        Check.promise(3, "REFUSED, FULL likewise");
        WindowPlan plan = withEightProcesses();
        Check.due("a ninth of partition 3", plan.process(3, 0, 0, 0), WindowPlan.REFUSED);
        Check.due("a ninth of priority 10", plan.process(0, 10, 0, 0), WindowPlan.REFUSED);
        Check.due("a ninth of period 61", plan.process(0, 0, 61, 0), WindowPlan.REFUSED);
        Check.due("a ninth of limit 61", plan.process(0, 0, 0, 61), WindowPlan.REFUSED);
        plan.on(1);
        Check.due("a ninth with a partition ON", plan.process(0, 0, 0, 0), WindowPlan.REFUSED);
    }

    private static void newProgramIsEmpty() {
        Check.promise(3, "A process, with an empty program: its number");
        WindowPlan plan = new WindowPlan();
        plan.process(0, 0, 0, 5);
        plan.on(0);
        Check.due("start", plan.start(0), 0);
        Check.due("its round was over at once", Check.process(plan, 0), "0 0 0 1 -1 0 0 0 0 -1");
    }

    private static void atMostEightOrders() {
        Check.promise(4, "a program of at most 8 orders; FULL");
        WindowPlan plan = new WindowPlan();
        plan.window(0, 1);
        Check.made(plan, 0, 0, 0, 0, 0, 1, 0, 1, 0, 1, 0, 1, 0, 1, 0, 1, 0, 1, 0, 1);
        Check.due("a ninth", plan.order(0, 0, 1), WindowPlan.FULL);
        Check.due("a ninth SEND", plan.order(0, 1, 3), WindowPlan.FULL);
        plan.on(0);
        plan.start(0);
        plan.run(7);
        Check.due("at its eighth", plan.state(0, 1), 7);
        plan.run(1);
        Check.due("over behind the eighth", Check.process(plan, 0), "0 0 0 1 -1 0 0 8 0 -1");
    }

    private static void eachProcessHasEightOrders() {
        Check.promise(4, "each with a program of at most 8 orders; One more order of the process: how many it has");
        WindowPlan plan = new WindowPlan();
        for (int i = 0; i <= 7; i++) {
            plan.process(0, 0, 0, 0);
        }
        for (int j = 1; j <= 8; j++) {
            for (int i = 0; i <= 7; i++) {
                Check.due("order of process " + i, plan.order(i, 4, 3), j);
            }
        }
        for (int i = 0; i <= 7; i++) {
            Check.due("a ninth of process " + i, plan.order(i, 4, 3), WindowPlan.FULL);
        }
    }

    private static void orderOfAProcessThatIsThere() {
        Check.promise(4, "One more order of the process; REFUSED likewise (numbers out of range)");
        WindowPlan plan = new WindowPlan();
        Check.due("process 0, without any", plan.order(0, 0, 1), WindowPlan.REFUSED);
        plan.process(0, 0, 0, 0);
        plan.process(0, 0, 0, 0);
        Check.due("-1", plan.order(-1, 0, 1), WindowPlan.REFUSED);
        Check.due("2, of two", plan.order(2, 0, 1), WindowPlan.REFUSED);
        for (int far : FAR) {
            Check.due("process " + far, plan.order(far, 0, 1), WindowPlan.REFUSED);
        }
        Check.due("0", plan.order(0, 0, 1), 1);
        Check.due("1", plan.order(1, 0, 1), 1);
        for (int i = 2; i <= 7; i++) {
            plan.process(0, 0, 0, 0);
        }
        Check.due("7, of eight", plan.order(7, 0, 1), 1);
        Check.due("8, of eight", plan.order(8, 0, 1), WindowPlan.REFUSED);
    }

    private static void ordersZeroToFour() {
        Check.promise(4, "0 WORK, 1 SEND, 2 TAKE, 3 UP, 4 DOWN");
        WindowPlan plan = new WindowPlan();
        plan.process(0, 0, 0, 0);
        Check.due("-1", plan.order(0, -1, 1), WindowPlan.REFUSED);
        Check.due("5", plan.order(0, 5, 1), WindowPlan.REFUSED);
        for (int far : FAR) {
            Check.due("order " + far, plan.order(0, far, 1), WindowPlan.REFUSED);
        }
        for (int i = 0; i <= 4; i++) {
            Check.due("order " + i, plan.order(0, i, 1), i + 1);
        }
    }

    private static void numbers(int order, int least, int most) {
        WindowPlan plan = new WindowPlan();
        plan.process(0, 0, 0, 0);
        Check.due(order + " with " + (least - 1), plan.order(0, order, least - 1), WindowPlan.REFUSED);
        Check.due(order + " with " + (most + 1), plan.order(0, order, most + 1), WindowPlan.REFUSED);
        for (int far : FAR) {
            Check.due(order + " with " + far, plan.order(0, order, far), WindowPlan.REFUSED);
        }
        Check.due(order + " with " + least, plan.order(0, order, least), 1);
        Check.due(order + " with " + most, plan.order(0, order, most), 2);
    }

    private static void workOneToTwenty() {
        Check.promise(4, "0 WORK n (1 .. 20); the number must be as the order says");
        numbers(0, 1, 20);
    }

    private static void portsZeroToThree() {
        Check.promise(4, "1 SEND p: a message into port p (0 .. 3). 2 TAKE p; the number must be as the order says");
        numbers(1, 0, 3);
        numbers(2, 0, 3);
    }

    private static void semaphoresZeroToThree() {
        Check.promise(4, "3 UP s, 4 DOWN s: semaphore s (0 .. 3); the number must be as the order says");
        numbers(3, 0, 3);
        numbers(4, 0, 3);
    }

    private static void orderOnlyWhileAllAreOff() {
        Check.promise(4, "orders are made only while all partitions are OFF");
        for (int i = 0; i <= 2; i++) {
            Check.due(i + " is ON", on(i).order(0, 0, 1), WindowPlan.REFUSED);
            Check.due(i + " is STOPPED", stopped(i).order(0, 0, 1), WindowPlan.REFUSED);
            WindowPlan plan = new WindowPlan();
            plan.process((i + 1) % 3, 0, 0, 0);
            plan.on(i);
            Check.due("of a process of an OFF partition, another is ON", plan.order(0, 0, 1), WindowPlan.REFUSED);
        }
        WindowPlan plan = new WindowPlan();
        plan.process(0, 0, 0, 0);
        plan.run(60);
        Check.due("time alone doesn't matter", plan.order(0, 0, 1), 1);
    }

    private static void orderIsRefusedBeforeItIsFull() {
        Check.promise(4, "REFUSED, FULL likewise");
        WindowPlan plan = new WindowPlan();
        Check.made(plan, 0, 0, 0, 0, 0, 1, 0, 1, 0, 1, 0, 1, 0, 1, 0, 1, 0, 1, 0, 1);
        Check.due("a ninth of order 5", plan.order(0, 5, 1), WindowPlan.REFUSED);
        Check.due("a ninth of WORK 0", plan.order(0, 0, 0), WindowPlan.REFUSED);
        Check.due("a ninth of SEND 4", plan.order(0, 1, 4), WindowPlan.REFUSED);
        plan.on(1);
        Check.due("a ninth with a partition ON", plan.order(0, 0, 1), WindowPlan.REFUSED);
    }
}
