/** Promise 8: run, with releases, RANK and the use of a tick. */
final class RunTest {
    public static void main(String[] args) {
        answers();
        releasesAndSkips();
        releasedOutsideOfItsWindow();
        higherPriorityFirst();
        leastNumberFirst();
        readyForLongerFirst();
        wokenIsReadyFromThen();
        ordersBehindWorkComeLater();
        manyOrdersInOneTick();
        onlyInItsWindows();
        deadlineOfTheNextRelease();
        Check.end();
    }

    private static void answers() {
        WindowPlan plan = new WindowPlan();
        int[] wrong = {0, -1, 61, Integer.MIN_VALUE, Integer.MAX_VALUE};
        for (int w : wrong) {
            Check.due("run(" + w + ")", plan.run(w), WindowPlan.REFUSED);
        }
        Check.due("time", plan.count(0), 0);
        Check.due("run(1)", plan.run(1), 1);
        Check.due("run(60)", plan.run(60), 61);
        Check.due("time", plan.count(0), 61);
    }

    private static void releasesAndSkips() {
        WindowPlan plan = new WindowPlan();
        plan.window(0, 1);
        Check.made(plan, 0, 0, 3, 0, 0, 7);
        plan.on(0);
        plan.run(3);
        Check.due("in its first round", Check.process(plan, 0), "1 0 3 1 -1 0 0 3 0 3");
        plan.run(1);
        Check.due("skipped", Check.process(plan, 0), "1 0 4 1 -1 0 1 4 0 6");
        plan.run(3);
        Check.due("skipped twice, over", Check.process(plan, 0), "0 0 0 1 -1 0 2 7 0 9");
        plan.run(2);
        Check.due("rests till 9", Check.process(plan, 0), "0 0 0 1 -1 0 2 7 0 9");
        plan.run(1);
        Check.due("released", Check.process(plan, 0), "1 0 1 2 -1 0 2 8 0 12");
        Check.due("two ticks without WORK", plan.count(4), 2);
    }

    private static void releasedOutsideOfItsWindow() {
        WindowPlan plan = new WindowPlan();
        plan.window(1, 5);
        plan.window(0, 1);
        Check.made(plan, 0, 0, 2, 4, 0, 1);
        plan.on(0);
        plan.run(1);
        Check.due("released", Check.process(plan, 0), "1 0 0 1 4 0 0 0 0 2");
        plan.run(4);
        Check.due("missed and skipped", Check.process(plan, 0), "1 0 0 1 -1 1 2 0 0 6");
        plan.run(1);
        Check.due("done in its window", Check.process(plan, 0), "0 0 0 1 -1 1 2 1 0 6");
    }

    private static void higherPriorityFirst() {
        WindowPlan plan = new WindowPlan();
        plan.window(0, 1);
        Check.made(plan, 0, 1, 0, 0, 0, 3);
        Check.made(plan, 0, 9, 2, 0, 0, 1);
        plan.on(0);
        plan.start(0);
        plan.run(1);
        Check.due("the higher one", plan.state(1, 7), 1);
        plan.run(1);
        Check.due("the lower one", plan.state(0, 2), 1);
        plan.run(1);
        Check.due("the higher one goes before", plan.state(1, 7), 2);
        Check.due("the lower one keeps what it has done", plan.state(0, 2), 1);
        plan.run(3);
        Check.due("the lower one is over", Check.process(plan, 0), "0 0 0 1 -1 0 0 3 0 -1");
    }

    private static void leastNumberFirst() {
        WindowPlan plan = new WindowPlan();
        plan.window(0, 1);
        for (int i = 0; i < 4; i++) {
            Check.made(plan, 0, 3, 20, 0, 0, 2);
        }
        plan.on(0);
        for (int i = 0; i < 4; i++) {
            plan.run(2);
            Check.due("by number", plan.state(i, 7), 2);
        }
    }

    private static void readyForLongerFirst() {
        WindowPlan plan = new WindowPlan();
        plan.window(0, 1);
        Check.made(plan, 0, 3, 3, 0, 0, 2);
        Check.made(plan, 0, 3, 0, 0, 0, 4);
        plan.on(0);
        plan.run(1);
        plan.start(1);
        plan.run(3);
        Check.due("the second has been READY for longer", plan.state(1, 7), 2);
        Check.due("the first was released at 3", plan.state(0, 3), 2);
        plan.run(2);
        Check.due("the second is over", plan.state(1, 0), WindowPlan.RESTING);
        plan.run(1);
        Check.due("now the first", plan.state(0, 7), 3);
    }

    private static void wokenIsReadyFromThen() {
        WindowPlan plan = new WindowPlan();
        plan.window(0, 1);
        Check.made(plan, 0, 3, 0, 0, 4, 0, 0, 1);
        Check.made(plan, 0, 3, 0, 0, 0, 1, 3, 0, 0, 2);
        Check.made(plan, 0, 3, 0, 0, 0, 1);
        plan.on(0);
        for (int i = 0; i <= 2; i++) {
            plan.start(i);
        }
        plan.run(2);
        Check.due("woken", Check.process(plan, 0), "1 1 0 1 -1 0 0 0 0 -1");
        Check.due("it woke the first and works on", Check.process(plan, 1), "1 2 1 1 -1 0 0 2 0 -1");
        plan.run(2);
        Check.due("READY for longer than the woken one", plan.state(2, 7), 1);
        Check.due("the woken one is last", plan.state(0, 7), 0);
        plan.run(1);
        Check.due("the woken one", plan.state(0, 7), 1);
    }

    private static void ordersBehindWorkComeLater() {
        WindowPlan plan = new WindowPlan();
        plan.window(0, 1);
        Check.made(plan, 0, 3, 0, 0, 0, 1, 1, 0);
        plan.on(0);
        plan.start(0);
        plan.run(1);
        Check.due("SEND is still to come", Check.process(plan, 0), "1 1 0 1 -1 0 0 1 0 -1");
        Check.due("no message", plan.port(0), 0);
        plan.run(1);
        Check.due("over", plan.state(0, 0), WindowPlan.RESTING);
        Check.due("a message", plan.port(0), 1);
        Check.due("a tick without WORK", plan.count(4), 1);
    }

    /** Seven processes give seven signals each, the eighth takes its seven of them all, in one tick. */
    private static void manyOrdersInOneTick() {
        WindowPlan plan = new WindowPlan();
        plan.window(2, 1);
        for (int i = 0; i < 7; i++) {
            Check.made(plan, 2, i, 0, 0, 4, 0, 3, 1, 4, 1, 3, 1, 4, 1, 3, 1, 4, 1, 3, 0);
        }
        Check.made(plan, 2, 9, 0, 0, 3, 0, 3, 1, 4, 1, 3, 1, 4, 1, 3, 1, 4, 1, 3, 2);
        plan.on(2);
        for (int i = 0; i < 8; i++) {
            plan.start(i);
        }
        plan.run(1);
        for (int i = 0; i < 8; i++) {
            Check.due("over in one tick", plan.state(i, 0), WindowPlan.RESTING);
        }
        Check.due("what the last one gave", plan.semaphore(0), 1);
        Check.due("what the first one gave", plan.semaphore(2), 1);
        Check.due("no WORK", plan.count(4), 1);
    }

    private static void onlyInItsWindows() {
        WindowPlan plan = new WindowPlan();
        plan.window(0, 2);
        plan.window(1, 3);
        plan.window(0, 1);
        Check.made(plan, 0, 0, 0, 0, 0, 20);
        Check.made(plan, 1, 0, 0, 0, 0, 20);
        plan.on(0);
        plan.on(1);
        plan.start(0);
        plan.start(1);
        int[] first = {1, 2, 2, 2, 2, 3, 4, 5, 5, 5, 5, 6};
        for (int i = 0; i < first.length; i++) {
            plan.run(1);
            Check.due("work of the first at " + i, plan.state(0, 7), first[i]);
            Check.due("work of the second at " + i, plan.state(1, 7), i + 1 - first[i]);
        }
    }

    /** A release and a deadline in the same tick: the release comes first, so it is SKIPPED. */
    private static void deadlineOfTheNextRelease() {
        WindowPlan plan = new WindowPlan();
        Check.made(plan, 0, 0, 4, 4, 0, 1);
        plan.action(0, 2);
        plan.on(0);
        plan.run(5);
        Check.due("skipped, then missed", Check.process(plan, 0), "0 0 0 1 -1 1 1 0 0 8");
        Check.due("STOPPED", plan.partition(0), WindowPlan.STOPPED);
    }
}
