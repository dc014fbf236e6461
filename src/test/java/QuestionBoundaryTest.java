/** Promises 9 to 13: each sentence on a boundary of the questions, with a test of its own. */
final class QuestionBoundaryTest {
    private static final int[] FAR = {Integer.MIN_VALUE, -65536, -256, -8, 64, 256, 65536, Integer.MAX_VALUE};

    public static void main(String[] args) {
        partitionsZeroToTwo();
        processesThatAreThere();
        whatZeroToNine();
        nextOrderOfOneResting();
        nextOrderOfOneWaiting();
        ticksDoneOfAWork();
        deadlineIfNone();
        nextReleaseWithoutAPeriod();
        nextReleaseIfNeverOn();
        portsZeroToThree();
        semaphoresZeroToThree();
        countZeroToSix();
        partitionWithTheTimeWithoutWindows();
        ticksLeftWithoutWindows();
        ticksLeftOfAWindow();
        ticksWithoutWork();
        processesAndWindows();
        questionsChangeNothing();
        Check.end();
    }

    private static void partitionsZeroToTwo() {
        Check.promise(9, "The partition's state; REFUSED for others");
        WindowPlan plan = new WindowPlan();
        plan.on(0);
        plan.on(2);
        Check.due("-1", plan.partition(-1), WindowPlan.REFUSED);
        Check.due("0", plan.partition(0), WindowPlan.ON);
        Check.due("1", plan.partition(1), WindowPlan.OFF);
        Check.due("2", plan.partition(2), WindowPlan.ON);
        Check.due("3", plan.partition(3), WindowPlan.REFUSED);
        for (int far : FAR) {
            Check.due("partition " + far, plan.partition(far), WindowPlan.REFUSED);
        }
    }

    private static void processesThatAreThere() {
        Check.promise(10, "Of a process: ...; REFUSED for others (processes)");
        WindowPlan plan = new WindowPlan();
        for (int made = 0; made <= 8; made++) {
            Check.due("-1 of " + made, plan.state(-1, 0), WindowPlan.REFUSED);
            Check.due("the last of " + made, plan.state(made - 1, 0), made == 0 ? WindowPlan.REFUSED : WindowPlan.RESTING);
            Check.due("one behind " + made, plan.state(made, 0), WindowPlan.REFUSED);
            plan.process(0, 0, 0, 0);
        }
        for (int far : FAR) {
            Check.due("process " + far, plan.state(far, 0), WindowPlan.REFUSED);
        }
    }

    private static void whatZeroToNine() {
        Check.promise(10, "0 its state, ... 9 its next release; REFUSED for others");
        WindowPlan plan = new WindowPlan();
        plan.process(0, 0, 5, 0);
        plan.on(0);
        plan.run(1);
        Check.due("-1", plan.state(0, -1), WindowPlan.REFUSED);
        Check.due("0", plan.state(0, 0), WindowPlan.RESTING);
        Check.due("9", plan.state(0, 9), 5);
        Check.due("10", plan.state(0, 10), WindowPlan.REFUSED);
        for (int far : FAR) {
            Check.due("what " + far, plan.state(0, far), WindowPlan.REFUSED);
        }
    }

    private static void nextOrderOfOneResting() {
        Check.promise(10, "1 the number of its next order (0 the first; ... 0 if RESTING)");
        WindowPlan plan = new WindowPlan();
        plan.window(0, 1);
        Check.made(plan, 0, 0, 0, 0, 3, 0, 3, 0, 3, 0, 3, 0, 3, 0, 3, 0, 3, 0, 0, 1);
        Check.due("before", plan.state(0, 1), 0);
        plan.on(0);
        plan.start(0);
        Check.due("the first", plan.state(0, 1), 0);
        plan.run(1);
        Check.due("behind the eighth", plan.state(0, 1), 0);
        Check.due("it rests", plan.state(0, 0), WindowPlan.RESTING);
    }

    private static void nextOrderOfOneWaiting() {
        Check.promise(10, "of one WAITING the order that it waits at");
        for (int order = 2; order <= 4; order += 2) {
            for (int at = 0; at <= 7; at++) {
                WindowPlan plan = new WindowPlan();
                plan.window(0, 1);
                plan.process(0, 0, 0, 0);
                for (int i = 0; i <= 7; i++) {
                    plan.order(0, i == at ? order : 3, i == at ? 1 : 2);
                }
                plan.on(0);
                plan.start(0);
                plan.run(1);
                Check.due("waits", plan.state(0, 0), WindowPlan.WAITING);
                Check.due("at order " + at, plan.state(0, 1), at);
            }
        }
    }

    private static void ticksDoneOfAWork() {
        Check.promise(10, "2 the ticks done of a WORK that it is at");
        WindowPlan plan = new WindowPlan();
        plan.window(0, 1);
        Check.made(plan, 0, 0, 0, 0, 0, 2, 4, 0, 0, 3);
        Check.made(plan, 0, 0, 0, 0, 3, 0);
        plan.on(0);
        plan.start(0);
        int[] due = {1, 0, 0};
        for (int i = 0; i < due.length; i++) {
            plan.run(1);
            Check.due("behind tick " + i, plan.state(0, 2), due[i]);
        }
        Check.due("it waits", plan.state(0, 0), WindowPlan.WAITING);
        plan.start(1);
        int[] then = {1, 2, 0};
        for (int i = 0; i < then.length; i++) {
            plan.run(1);
            Check.due("of the second WORK", plan.state(0, 2), then[i]);
        }
        Check.due("all ticks of WORK", plan.state(0, 7), 5);
    }

    private static void deadlineIfNone() {
        Check.promise(10, "4 its DEADLINE (-1 if none)");
        WindowPlan plan = new WindowPlan();
        plan.window(0, 1);
        Check.made(plan, 0, 0, 0, 9, 0, 1);
        Check.made(plan, 0, 9, 0, 0, 0, 1);
        Check.due("before", plan.state(0, 4), -1);
        plan.on(0);
        plan.start(0);
        plan.start(1);
        Check.due("without a limit", plan.state(1, 4), -1);
        Check.due("with one", plan.state(0, 4), 9);
        plan.run(2);
        Check.due("over", plan.state(0, 4), -1);
    }

    private static void nextReleaseWithoutAPeriod() {
        Check.promise(10, "9 its next release (-1 without a period)");
        WindowPlan plan = new WindowPlan();
        plan.process(1, 0, 0, 5);
        plan.on(1);
        plan.start(0);
        plan.run(3);
        Check.due("next release", plan.state(0, 9), -1);
    }

    private static void nextReleaseIfNeverOn() {
        Check.promise(10, "9 its next release (-1 if it was never ON)");
        WindowPlan plan = new WindowPlan();
        plan.process(1, 0, 5, 5);
        plan.on(0);
        plan.on(2);
        plan.run(30);
        Check.due("never ON", plan.state(0, 9), -1);
        plan.on(1);
        Check.due("just ON", plan.state(0, 9), 30);
        plan.run(1);
        Check.due("behind the first release", plan.state(0, 9), 35);
    }

    private static void portsZeroToThree() {
        Check.promise(11, "Messages in the port's row; REFUSED for others");
        WindowPlan plan = new WindowPlan();
        Check.due("-1", plan.port(-1), WindowPlan.REFUSED);
        Check.due("0", plan.port(0), 0);
        Check.due("3", plan.port(3), 0);
        Check.due("4", plan.port(4), WindowPlan.REFUSED);
        for (int far : FAR) {
            Check.due("port " + far, plan.port(far), WindowPlan.REFUSED);
        }
    }

    private static void semaphoresZeroToThree() {
        Check.promise(12, "The semaphore's count; REFUSED for others");
        WindowPlan plan = new WindowPlan();
        Check.due("-1", plan.semaphore(-1), WindowPlan.REFUSED);
        Check.due("0", plan.semaphore(0), 0);
        Check.due("3", plan.semaphore(3), 0);
        Check.due("4", plan.semaphore(4), WindowPlan.REFUSED);
        for (int far : FAR) {
            Check.due("semaphore " + far, plan.semaphore(far), WindowPlan.REFUSED);
        }
    }

    private static void countZeroToSix() {
        Check.promise(13, "The time (0), ... windows (6); REFUSED for others");
        WindowPlan plan = new WindowPlan();
        plan.window(0, 1);
        plan.run(3);
        Check.due("-1", plan.count(-1), WindowPlan.REFUSED);
        Check.due("0", plan.count(0), 3);
        Check.due("6", plan.count(6), 1);
        Check.due("7", plan.count(7), WindowPlan.REFUSED);
        for (int far : FAR) {
            Check.due("what " + far, plan.count(far), WindowPlan.REFUSED);
        }
    }

    private static void partitionWithTheTimeWithoutWindows() {
        Check.promise(13, "the partition that has the time (1; REFUSED without windows)");
        WindowPlan plan = new WindowPlan();
        Check.due("none", plan.count(1), WindowPlan.REFUSED);
        plan.run(2);
        Check.due("later", plan.count(1), WindowPlan.REFUSED);
        plan.window(2, 1);
        Check.due("with one", plan.count(1), 2);
        plan.window(1, 1);
        plan.window(0, 1);
        Check.due("2 is the third tick of three", plan.count(1), 0);
        plan = new WindowPlan();
        plan.on(0);
        plan.run(9);
        Check.due("none, with a partition ON", plan.count(1), WindowPlan.REFUSED);
    }

    private static void ticksLeftWithoutWindows() {
        Check.promise(13, "ticks left of its window (2; REFUSED likewise)");
        WindowPlan plan = new WindowPlan();
        Check.due("none", plan.count(2), WindowPlan.REFUSED);
        plan.run(2);
        Check.due("later", plan.count(2), WindowPlan.REFUSED);
        plan.window(0, 1);
        Check.due("with one", plan.count(2), 1);
        plan = new WindowPlan();
        plan.on(0);
        plan.run(9);
        Check.due("none, with a partition ON", plan.count(2), WindowPlan.REFUSED);
    }

    private static void ticksLeftOfAWindow() {
        Check.promise(13, "ticks left of its window (2)");
        WindowPlan plan = new WindowPlan();
        plan.window(0, 30);
        plan.window(0, 1);
        plan.window(1, 2);
        Check.due("all of the first", plan.count(2), 30);
        plan.run(29);
        Check.due("the last tick of the first", plan.count(2), 1);
        plan.run(1);
        Check.due("the next is a window of its own, though of the same partition", plan.count(2), 1);
        plan.run(1);
        Check.due("all of the third", plan.count(2), 2);
        plan.run(1);
        Check.due("the last tick of the row", plan.count(2), 1);
        Check.due("its partition", plan.count(1), 1);
        plan.run(1);
        Check.due("again all of the first", plan.count(2), 30);
        Check.due("its partition", plan.count(1), 0);
    }

    private static void ticksWithoutWork() {
        Check.promise(13, "ticks that had an ON partition and no WORK (4)");
        WindowPlan plan = new WindowPlan();
        plan.window(0, 1);
        plan.window(1, 1);
        Check.made(plan, 0, 0, 0, 0, 0, 2, 3, 0);
        plan.run(4);
        Check.due("while OFF", plan.count(4), 0);
        plan.on(0);
        plan.start(0);
        plan.run(4);
        Check.due("two ticks of WORK, two of an OFF partition", plan.count(4), 0);
        plan.run(1);
        Check.due("orders, but no WORK", plan.count(4), 1);
        plan.run(2);
        Check.due("nothing at all to do", plan.count(4), 2);
    }

    private static void processesAndWindows() {
        Check.promise(13, "processes (5), windows (6)");
        WindowPlan plan = new WindowPlan();
        for (int i = 1; i <= 9; i++) {
            plan.process(0, 0, 0, 0);
            plan.process(0, 0, 0, -1);
            Check.due("processes", plan.count(5), Math.min(i, 8));
            Check.due("no windows yet", plan.count(6), 0);
        }
        for (int i = 1; i <= 9; i++) {
            plan.window(0, 1);
            plan.window(0, 0);
            Check.due("windows", plan.count(6), Math.min(i, 8));
            Check.due("processes", plan.count(5), 8);
        }
    }

    private static void questionsChangeNothing() {
        Check.promise(9, "A call that answers REFUSED changes nothing (partition, state, port, semaphore, count)");
        WindowPlan plan = new WindowPlan();
        plan.window(0, 1);
        Check.made(plan, 0, 3, 2, 9, 1, 0, 0, 1);
        plan.on(0);
        plan.run(5);
        String before = Check.all(plan);
        Check.due("once more", Check.all(plan), before);
        plan.state(0, 10);
        plan.state(1, 0);
        plan.count(7);
        Check.due("behind the refused ones", Check.all(plan), before);
    }
}
