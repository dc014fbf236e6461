/** Promise 8: each sentence on a boundary of ticks, windows, releases and deadlines, with a test of its own. */
final class TickBoundaryTest {
    private static final int[] FAR = {Integer.MIN_VALUE, -65536, -256, -60, 64, 256, 65536, Integer.MAX_VALUE};

    public static void main(String[] args) {
        oneToSixtyTicks();
        windowsComeAgainAndAgain();
        oneWindowAlone();
        withoutWindowsNobodyHasTheTime();
        timeOfAnOffPartition();

        behindItsLastOrder();
        workOfOneAndOfTwenty();
        emptyProgramInATick();
        noneIsReady();
        allOrdersThatThereCanBeInOneTick();

        releasedIfRestingElseSkipped();
        periodOfOne();
        periodOfSixty();
        notReleasedUnlessOn();

        overBeforeTheDeadline();
        overInTheDeadlinesTick();
        limitOfOne();
        limitOfSixty();
        limitOfNone();
        releaseAndDeadlineInOneTick();
        missedOnce();
        missedWhileWaiting();
        againAtItsFirstOrder();
        againInTheMiddleOfWork();
        stopRestsAll();
        stopEndsTheSearchInItsPartition();

        equalPriorityLeastNumberFirst();
        priorityZeroAndNine();
        equalPriorityReadyForLongerFirst();
        longLife();
        Check.end();
    }

    private static void oneToSixtyTicks() {
        Check.promise(8, "n TICKS, 1 .. 60: the time. REFUSED for others");
        WindowPlan plan = new WindowPlan();
        Check.due("-1", plan.run(-1), WindowPlan.REFUSED);
        Check.due("0", plan.run(0), WindowPlan.REFUSED);
        Check.due("61", plan.run(61), WindowPlan.REFUSED);
        for (int far : FAR) {
            Check.due("n " + far, plan.run(far), WindowPlan.REFUSED);
        }
        Check.due("the time", plan.count(0), 0);
        Check.due("1", plan.run(1), 1);
        Check.due("60", plan.run(60), 61);
        Check.due("the time", plan.count(0), 61);
    }

    private static void windowsComeAgainAndAgain() {
        Check.promise(8, "they follow one another from time 0 on, again and again");
        WindowPlan plan = new WindowPlan();
        int[] lengths = {1, 2, 1, 3, 1, 1, 2, 1};
        for (int i = 0; i < 8; i++) {
            plan.window(i % 2, lengths[i]);
        }
        Check.made(plan, 0, 0, 1, 0, 0, 20);
        Check.made(plan, 1, 0, 1, 0, 0, 20);
        plan.on(0);
        plan.on(1);
        int[] first = {1, 0, 0, 1, 0, 0, 0, 1, 0, 1, 1, 0};
        int worked = 0;
        for (int time = 0; time < 40; time++) {
            worked += first[time % 12];
            plan.run(1);
            Check.due("work of the first behind tick " + time, plan.state(0, 7), worked);
            Check.due("work of the second behind tick " + time, plan.state(1, 7), time + 1 - worked);
        }
    }

    private static void oneWindowAlone() {
        Check.promise(8, "they follow one another from time 0 on, again and again (a single one of length 1)");
        WindowPlan plan = new WindowPlan();
        plan.window(2, 1);
        Check.made(plan, 2, 0, 1, 0, 0, 1);
        plan.on(2);
        plan.run(60);
        Check.due("it works in each tick", plan.state(0, 7), 60);
    }

    private static void withoutWindowsNobodyHasTheTime() {
        Check.promise(8, "Without windows no partition ever has the time");
        WindowPlan plan = new WindowPlan();
        for (int i = 0; i <= 2; i++) {
            Check.made(plan, i, 0, 7, 0, 3, i, 0, 1);
            plan.action(i, 1);
        }
        for (int i = 0; i <= 2; i++) {
            plan.on(i);
        }
        plan.run(60);
        for (int i = 0; i <= 2; i++) {
            Check.due("released, skipped, not begun", Check.process(plan, i), "1 0 0 1 -1 0 8 0 0 63");
            Check.due("no UP", plan.semaphore(i), 0);
        }
    }

    private static void timeOfAnOffPartition() {
        Check.promise(8, "(3) If the partition of t's window is ON");
        WindowPlan plan = new WindowPlan();
        plan.window(0, 2);
        plan.window(1, 1);
        Check.made(plan, 1, 0, 3, 0, 0, 1);
        plan.on(1);
        plan.run(2);
        Check.due("the time of an OFF one goes to nobody", plan.state(0, 7), 0);
        plan.run(1);
        Check.due("its own", plan.state(0, 7), 1);
        Check.due("no tick of an ON one without WORK", plan.count(4), 0);
    }

    private static void behindItsLastOrder() {
        Check.promise(8, "Behind its last order it is RESTING, its ROUND is over");
        WindowPlan plan = new WindowPlan();
        plan.window(0, 1);
        Check.made(plan, 0, 0, 0, 30, 0, 1, 3, 0);
        plan.on(0);
        plan.start(0);
        plan.run(1);
        Check.due("before the last", Check.process(plan, 0), "1 1 0 1 30 0 0 1 0 -1");
        plan.run(1);
        Check.due("behind the last", Check.process(plan, 0), "0 0 0 1 -1 0 0 1 0 -1");
        plan.run(5);
        Check.due("it begins no round by itself", Check.process(plan, 0), "0 0 0 1 -1 0 0 1 0 -1");
    }

    private static void workOfOneAndOfTwenty() {
        Check.promise(8, "A WORK of n is done by n such ticks");
        WindowPlan plan = new WindowPlan();
        plan.window(0, 1);
        Check.made(plan, 0, 0, 0, 0, 0, 1, 0, 20);
        plan.on(0);
        plan.start(0);
        plan.run(1);
        Check.due("behind WORK 1", Check.process(plan, 0), "1 1 0 1 -1 0 0 1 0 -1");
        plan.run(19);
        Check.due("before the last tick", Check.process(plan, 0), "1 1 19 1 -1 0 0 20 0 -1");
        plan.run(1);
        Check.due("over", Check.process(plan, 0), "0 0 0 1 -1 0 0 21 0 -1");
    }

    private static void emptyProgramInATick() {
        Check.promise(8, "with an empty program the round is over at once");
        WindowPlan plan = new WindowPlan();
        plan.window(0, 1);
        plan.process(0, 9, 2, 1);
        plan.action(0, 2);
        plan.on(0);
        plan.run(4);
        Check.due("two rounds, none skipped, none missed", Check.process(plan, 0), "0 0 0 2 -1 0 0 0 0 4");
        Check.due("ON", plan.partition(0), WindowPlan.ON);
        Check.due("ticks without WORK", plan.count(4), 4);
    }

    private static void noneIsReady() {
        Check.promise(8, "until a tick of WORK was done, or none is READY");
        WindowPlan plan = new WindowPlan();
        plan.window(0, 1);
        Check.made(plan, 0, 9, 0, 0, 3, 0, 3, 0);
        Check.made(plan, 0, 5, 0, 0, 4, 0, 0, 1, 3, 1);
        Check.made(plan, 0, 1, 0, 0, 4, 0, 3, 2);
        plan.on(0);
        for (int i = 0; i <= 2; i++) {
            plan.start(i);
        }
        plan.run(1);
        Check.due("orders up to the WORK", plan.semaphore(0), 1);
        Check.due("the one behind has not begun", plan.state(2, 1), 0);
        plan.run(1);
        Check.due("all the others, without WORK", plan.semaphore(0), 0);
        Check.due("UP 1", plan.semaphore(1), 1);
        Check.due("UP 2", plan.semaphore(2), 1);
        Check.due("ticks without WORK", plan.count(4), 1);
    }

    private static void allOrdersThatThereCanBeInOneTick() {
        Check.promise(8, "has its next order done, and so on anew (8 processes with 8 orders)");
        WindowPlan plan = new WindowPlan();
        plan.window(0, 1);
        for (int i = 0; i <= 7; i++) {
            Check.made(plan, 0, i, 0, 0, 1, 0, 1, 0, 1, 1, 1, 1, 1, 2, 1, 2, 1, 3, 1, 3);
        }
        plan.on(0);
        for (int i = 0; i <= 7; i++) {
            plan.start(i);
        }
        plan.run(1);
        for (int i = 0; i <= 7; i++) {
            Check.due("over", plan.state(i, 0), WindowPlan.RESTING);
        }
        Check.due("64 messages, 16 in rows", plan.count(3), 48);
    }

    private static void releasedIfRestingElseSkipped() {
        Check.promise(8, "if it is RESTING, it is RELEASED; else the release is SKIPPED");
        WindowPlan plan = new WindowPlan();
        plan.window(0, 1);
        Check.made(plan, 0, 9, 4, 0, 0, 4);
        plan.on(0);
        plan.run(8);
        Check.due("over just before each release", Check.process(plan, 0), "0 0 0 2 -1 0 0 8 0 8");
        plan = new WindowPlan();
        plan.window(0, 1);
        Check.made(plan, 0, 9, 4, 0, 0, 5);
        plan.on(0);
        plan.run(8);
        Check.due("one tick too long", Check.process(plan, 0), "0 0 0 1 -1 0 1 5 0 8");
        plan.run(1);
        Check.due("the release behind the skipped one", Check.process(plan, 0), "1 0 1 2 -1 0 1 6 0 12");
    }

    private static void periodOfOne() {
        Check.promise(8, "the next one is a period later (1)");
        WindowPlan plan = new WindowPlan();
        plan.window(0, 1);
        Check.made(plan, 0, 0, 1, 0, 0, 2);
        plan.on(0);
        plan.run(1);
        Check.due("first", Check.process(plan, 0), "1 0 1 1 -1 0 0 1 0 1");
        plan.run(1);
        Check.due("skipped", Check.process(plan, 0), "0 0 0 1 -1 0 1 2 0 2");
        plan.run(1);
        Check.due("second", Check.process(plan, 0), "1 0 1 2 -1 0 1 3 0 3");
    }

    private static void periodOfSixty() {
        Check.promise(8, "the next one is a period later (60)");
        WindowPlan plan = new WindowPlan();
        plan.window(0, 1);
        Check.made(plan, 0, 0, 60, 0, 0, 1);
        plan.on(0);
        plan.run(60);
        Check.due("one round", Check.process(plan, 0), "0 0 0 1 -1 0 0 1 0 60");
        plan.run(1);
        Check.due("two", Check.process(plan, 0), "0 0 0 2 -1 0 0 2 0 120");
    }

    private static void notReleasedUnlessOn() {
        Check.promise(8, "(1) For each process of an ON partition");
        WindowPlan plan = new WindowPlan();
        plan.window(0, 1);
        Check.made(plan, 0, 0, 2, 0, 0, 1);
        Check.made(plan, 1, 0, 2, 1, 0, 1);
        plan.action(1, 2);
        plan.run(10);
        Check.due("OFF", Check.process(plan, 0), "0 0 0 0 -1 0 0 0 0 -1");
        plan.on(1);
        plan.run(10);
        Check.due("STOPPED since 11", Check.process(plan, 1), "0 0 0 1 -1 1 0 0 0 12");
        Check.due("still OFF", Check.process(plan, 0), "0 0 0 0 -1 0 0 0 0 -1");
    }

    private static WindowPlan workWithLimit(int work, int limit) {
        WindowPlan plan = new WindowPlan();
        plan.window(0, 1);
        Check.made(plan, 0, 0, 0, limit, 0, work);
        plan.action(0, 2);
        plan.on(0);
        plan.start(0);
        return plan;
    }

    private static void overBeforeTheDeadline() {
        Check.promise(8, "There is no DEADLINE when a round is over");
        WindowPlan plan = workWithLimit(5, 5);
        plan.run(5);
        Check.due("over in the last tick before it", Check.process(plan, 0), "0 0 0 1 -1 0 0 5 0 -1");
        plan.run(10);
        Check.due("not missed", plan.state(0, 5), 0);
        Check.due("ON", plan.partition(0), WindowPlan.ON);
    }

    private static void overInTheDeadlinesTick() {
        Check.promise(8, "not RESTING, whose DEADLINE is t: it is MISSED");
        WindowPlan plan = workWithLimit(6, 5);
        plan.run(5);
        Check.due("not yet missed", Check.process(plan, 0), "1 0 5 1 5 0 0 5 0 -1");
        Check.due("ON", plan.partition(0), WindowPlan.ON);
        plan.run(1);
        Check.due("missed before it could work", Check.process(plan, 0), "0 0 0 1 -1 1 0 5 0 -1");
        Check.due("STOPPED", plan.partition(0), WindowPlan.STOPPED);
    }

    private static void limitOfOne() {
        Check.promise(8, "its DEADLINE is the time + limit (1)");
        WindowPlan plan = workWithLimit(1, 1);
        Check.due("deadline", plan.state(0, 4), 1);
        plan.run(2);
        Check.due("work of one tick is over in time", Check.process(plan, 0), "0 0 0 1 -1 0 0 1 0 -1");
        plan = workWithLimit(2, 1);
        plan.run(2);
        Check.due("work of two is not", Check.process(plan, 0), "0 0 0 1 -1 1 0 1 0 -1");
    }

    private static void limitOfSixty() {
        Check.promise(8, "its DEADLINE is the time + limit (60)");
        WindowPlan plan = new WindowPlan();
        Check.made(plan, 0, 0, 60, 60, 4, 0);
        plan.window(0, 1);
        plan.on(0);
        plan.run(60);
        Check.due("not yet", Check.process(plan, 0), "2 0 0 1 60 0 0 0 0 60");
        plan.run(1);
        Check.due("missed", Check.process(plan, 0), "2 0 0 1 -1 1 1 0 0 120");
    }

    private static void limitOfNone() {
        Check.promise(8, "if it has a limit, its DEADLINE is the time + limit, otherwise none");
        WindowPlan plan = workWithLimit(20, 0);
        Check.due("no deadline", plan.state(0, 4), -1);
        plan.run(20);
        Check.due("never missed", Check.process(plan, 0), "0 0 0 1 -1 0 0 20 0 -1");
        Check.due("ON", plan.partition(0), WindowPlan.ON);
    }

    private static void releaseAndDeadlineInOneTick() {
        Check.promise(8, "A TICK t: (1) ... the release is SKIPPED ... (2) ... it is MISSED");
        for (int action = 0; action <= 2; action++) {
            WindowPlan plan = new WindowPlan();
            plan.window(0, 1);
            Check.made(plan, 0, 0, 3, 3, 4, 0);
            plan.action(0, action);
            plan.on(0);
            plan.run(4);
            Check.due("not released anew, by action " + action, plan.state(0, 3), 1);
            Check.due("skipped", plan.state(0, 6), 1);
            Check.due("missed", plan.state(0, 5), 1);
            Check.due("no deadline of a new round", plan.state(0, 4), -1);
        }
    }

    private static void missedOnce() {
        Check.promise(8, "it is MISSED; it has no DEADLINE then; NOTE: that is all");
        WindowPlan plan = workWithLimit(20, 3);
        plan.action(0, 0);
        plan.run(19);
        Check.due("missed once, goes on", Check.process(plan, 0), "1 0 19 1 -1 1 0 19 0 -1");
        plan.run(1);
        Check.due("over", Check.process(plan, 0), "0 0 0 1 -1 1 0 20 0 -1");
    }

    private static void missedWhileWaiting() {
        Check.promise(8, "(2) For each process by number, of an ON partition, not RESTING");
        WindowPlan plan = new WindowPlan();
        plan.window(0, 1);
        Check.made(plan, 0, 0, 0, 2, 2, 3, 0, 1);
        plan.on(0);
        plan.start(0);
        plan.run(3);
        Check.due("missed, waits on", Check.process(plan, 0), "2 0 0 1 -1 1 0 0 0 -1");
    }

    private static void againAtItsFirstOrder() {
        Check.promise(8, "AGAIN: it is READY at its first order, from now, wherever it was (without a deadline)");
        WindowPlan plan = new WindowPlan();
        plan.window(0, 8);
        plan.window(1, 1);
        Check.made(plan, 0, 0, 0, 8, 1, 1, 2, 1, 4, 0);
        plan.action(0, 1);
        plan.on(0);
        plan.start(0);
        plan.run(8);
        Check.due("waits at its last order", Check.process(plan, 0), "2 2 0 1 8 0 0 0 8 -1");
        plan.run(1);
        Check.due("READY at its first, which has no time yet", Check.process(plan, 0), "1 0 0 1 -1 1 0 0 8 -1");
        plan.run(1);
        Check.due("waits there again, in the same round", Check.process(plan, 0), "2 2 0 1 -1 1 0 0 8 -1");
        plan.run(30);
        Check.due("is not missed again", plan.state(0, 5), 1);
        Check.due("each message was taken", plan.port(1), 0);
    }

    private static void againInTheMiddleOfWork() {
        Check.promise(8, "AGAIN: it is READY at its first order, from now (in the middle of that order)");
        WindowPlan plan = workWithLimit(20, 19);
        plan.action(0, 1);
        plan.run(19);
        Check.due("one tick before it would be over", Check.process(plan, 0), "1 0 19 1 19 0 0 19 0 -1");
        plan.run(1);
        Check.due("the first tick anew", Check.process(plan, 0), "1 0 1 1 -1 1 0 20 0 -1");
        plan.run(19);
        Check.due("over by twenty ticks more", Check.process(plan, 0), "0 0 0 1 -1 1 0 39 0 -1");
    }

    private static void stopRestsAll() {
        Check.promise(8, "STOP: the partition is STOPPED: all its processes are RESTING, without DEADLINES");
        WindowPlan plan = new WindowPlan();
        plan.window(0, 1);
        Check.made(plan, 0, 9, 0, 20, 4, 0);
        Check.made(plan, 0, 5, 9, 9, 0, 20);
        Check.made(plan, 0, 1, 0, 2, 0, 1);
        Check.made(plan, 1, 1, 0, 2, 0, 1);
        plan.action(0, 2);
        plan.on(0);
        plan.on(1);
        plan.start(0);
        plan.start(2);
        plan.start(3);
        plan.run(3);
        Check.due("STOPPED", plan.partition(0), WindowPlan.STOPPED);
        Check.due("waited", Check.process(plan, 0), "0 0 0 1 -1 0 0 0 0 -1");
        Check.due("worked", Check.process(plan, 1), "0 0 0 1 -1 0 0 2 0 9");
        Check.due("missed", Check.process(plan, 2), "0 0 0 1 -1 1 0 0 0 -1");
        Check.due("of another, which notes", Check.process(plan, 3), "1 0 0 1 -1 1 0 0 0 -1");
        Check.due("ON", plan.partition(1), WindowPlan.ON);
    }

    private static void stopEndsTheSearchInItsPartition() {
        Check.promise(8, "(2) For each process by number, of an ON partition, not RESTING, whose DEADLINE is t");
        WindowPlan plan = new WindowPlan();
        for (int i = 0; i <= 3; i++) {
            Check.made(plan, i % 2, 9 - i, 0, 6, 0, 1);
        }
        plan.action(0, 2);
        plan.on(0);
        plan.on(1);
        for (int i = 3; i >= 0; i--) {
            plan.start(i);
        }
        plan.run(7);
        int[] missed = {1, 1, 0, 1};
        for (int i = 0; i <= 3; i++) {
            Check.due("process " + i, plan.state(i, 5), missed[i]);
        }
    }

    private static void equalPriorityLeastNumberFirst() {
        Check.promise(8, "RANK: of those released in the same tick the least number first");
        WindowPlan plan = new WindowPlan();
        plan.window(0, 1);
        for (int i = 0; i <= 7; i++) {
            Check.made(plan, 0, 4, 60, 0, 0, 1);
        }
        plan.on(0);
        for (int i = 0; i <= 7; i++) {
            plan.run(1);
            for (int j = 0; j <= 7; j++) {
                Check.due("process " + j + " behind tick " + i, plan.state(j, 7), j <= i ? 1 : 0);
            }
        }
    }

    private static void priorityZeroAndNine() {
        Check.promise(8, "RANK: higher priority first, then the one that has been READY for longer");
        WindowPlan plan = new WindowPlan();
        plan.window(0, 1);
        Check.made(plan, 0, 0, 0, 0, 0, 20);
        Check.made(plan, 0, 9, 0, 0, 0, 2);
        plan.on(0);
        plan.start(0);
        plan.run(10);
        plan.start(1);
        plan.run(2);
        Check.due("the higher one, though READY for shorter", plan.state(1, 7), 2);
        plan.run(10);
        Check.due("the lower one goes on", plan.state(0, 7), 20);
    }

    private static void equalPriorityReadyForLongerFirst() {
        Check.promise(8, "RANK: then the one that has been READY for longer: that began so first");
        WindowPlan plan = new WindowPlan();
        plan.window(1, 3);
        plan.window(0, 10);
        Check.made(plan, 0, 5, 0, 0, 0, 2);
        Check.made(plan, 0, 5, 0, 0, 0, 2);
        Check.made(plan, 0, 5, 0, 0, 0, 2);
        plan.on(0);
        int[] started = {1, 2, 0};
        for (int process : started) {
            plan.start(process);
            plan.run(1);
        }
        for (int process : started) {
            plan.run(2);
            Check.due("process " + process + ", in the order of their begin", plan.state(process, 7), 2);
        }
        plan.start(0);
        plan.start(2);
        plan.run(1);
        Check.due("a new round has a new begin", plan.state(0, 7), 3);
    }

    /** As much time as 512 calls can bring: nothing wraps around. */
    private static void longLife() {
        Check.promise(8, "n TICKS, 1 .. 60: the time (over 500 calls)");
        WindowPlan plan = new WindowPlan();
        plan.window(0, 7);
        plan.window(1, 4);
        Check.made(plan, 0, 0, 1, 60, 1, 0);
        plan.on(0);
        for (int i = 1; i <= 500; i++) {
            Check.due("time", plan.run(60), 60L * i);
        }
        // 30000 ticks are 2727 rows of 11 and 3 ticks of the first window more
        Check.due("partition", plan.count(1), 0);
        Check.due("ticks left", plan.count(2), 4);
        Check.due("rounds", plan.state(0, 3), 2727 * 7 + 3);
        Check.due("skipped", plan.state(0, 6), 30000 - (2727 * 7 + 3));
        Check.due("lost", plan.count(3), 2727 * 7 + 3 - 4);
        Check.due("ticks without WORK", plan.count(4), 2727 * 7 + 3);
    }
}
