/** Promise 12: semaphore, with UP and DOWN. */
final class SemaphoreTest {
    public static void main(String[] args) {
        answers();
        atMostNine();
        downTakesOne();
        firstByRankGoesOn();
        waitingCountsFromItsBegin();
        stoppedOnesWaitNoMore();
        Check.end();
    }

    private static void answers() {
        WindowPlan plan = new WindowPlan();
        int[] wrong = {-1, 4, Integer.MIN_VALUE, Integer.MAX_VALUE};
        for (int w : wrong) {
            Check.due("semaphore(" + w + ")", plan.semaphore(w), WindowPlan.REFUSED);
        }
        plan.window(0, 1);
        Check.made(plan, 0, 0, 0, 0, 3, 0, 3, 1, 3, 1, 3, 2, 3, 2, 3, 2, 3, 3);
        plan.on(0);
        plan.start(0);
        plan.run(1);
        int[] due = {1, 2, 3, 1};
        for (int i = 0; i <= 3; i++) {
            Check.due("semaphore " + i, plan.semaphore(i), due[i]);
        }
    }

    private static void atMostNine() {
        WindowPlan plan = new WindowPlan();
        plan.window(0, 1);
        Check.made(plan, 0, 0, 1, 0, 3, 1);
        plan.on(0);
        for (int i = 1; i <= 12; i++) {
            plan.run(1);
            Check.due("after " + i, plan.semaphore(1), Math.min(i, 9));
            Check.due("its round is over", plan.state(0, 0), WindowPlan.RESTING);
        }
    }

    private static void downTakesOne() {
        WindowPlan plan = new WindowPlan();
        plan.window(0, 1);
        Check.made(plan, 0, 9, 0, 0, 3, 3, 3, 3);
        Check.made(plan, 0, 0, 0, 0, 4, 3);
        plan.on(0);
        plan.start(0);
        plan.start(1);
        plan.run(1);
        Check.due("one is left", plan.semaphore(3), 1);
        plan.start(1);
        plan.run(1);
        Check.due("none is left", plan.semaphore(3), 0);
        Check.due("its round is over", plan.state(1, 0), WindowPlan.RESTING);
        plan.start(1);
        plan.run(1);
        Check.due("it waits", plan.state(1, 0), WindowPlan.WAITING);
        Check.due("not below 0", plan.semaphore(3), 0);
    }

    private static void firstByRankGoesOn() {
        WindowPlan plan = new WindowPlan();
        plan.window(0, 1);
        Check.made(plan, 0, 2, 0, 0, 4, 0);
        Check.made(plan, 0, 5, 0, 0, 4, 0);
        Check.made(plan, 1, 5, 0, 0, 0, 1);
        Check.made(plan, 0, 5, 0, 0, 4, 0);
        Check.made(plan, 0, 9, 0, 0, 4, 1);
        Check.made(plan, 0, 9, 0, 0, 2, 0);
        Check.made(plan, 0, 0, 0, 0, 3, 0);
        plan.on(0);
        int[] started = {0, 3, 4, 5, 1};
        for (int process : started) {
            plan.start(process);
            plan.run(1);
            Check.due("waits", plan.state(process, 0), WindowPlan.WAITING);
        }
        int[] due = {3, 1, 0};
        for (int i = 0; i < due.length; i++) {
            plan.start(6);
            plan.run(1);
            Check.due("goes on", plan.state(due[i], 0), WindowPlan.RESTING);
            for (int j = i + 1; j < due.length; j++) {
                Check.due("waits on", plan.state(due[j], 0), WindowPlan.WAITING);
            }
            Check.due("the count stays", plan.semaphore(0), 0);
        }
        Check.due("at another semaphore", plan.state(4, 0), WindowPlan.WAITING);
        Check.due("at the port of the same number", plan.state(5, 0), WindowPlan.WAITING);
        plan.start(6);
        plan.run(1);
        Check.due("none waits there", plan.semaphore(0), 1);
    }

    /** The first was READY before the second, but its window comes later: it begins to wait later. */
    private static void waitingCountsFromItsBegin() {
        WindowPlan plan = new WindowPlan();
        plan.window(1, 1);
        plan.window(0, 1);
        Check.made(plan, 0, 5, 0, 0, 4, 2);
        Check.made(plan, 1, 5, 0, 0, 4, 2);
        Check.made(plan, 0, 0, 0, 0, 3, 2);
        plan.on(0);
        plan.on(1);
        plan.start(0);
        plan.start(1);
        plan.start(2);
        plan.run(2);
        Check.due("waits on", plan.state(0, 0), WindowPlan.WAITING);
        Check.due("goes on", plan.state(1, 0), WindowPlan.RESTING);
        plan.start(2);
        plan.run(2);
        Check.due("then the other", plan.state(0, 0), WindowPlan.RESTING);
    }

    private static void stoppedOnesWaitNoMore() {
        WindowPlan plan = new WindowPlan();
        plan.window(0, 1);
        plan.window(1, 1);
        Check.made(plan, 0, 2, 0, 3, 4, 0);
        Check.made(plan, 1, 2, 0, 0, 3, 0);
        plan.action(0, 2);
        plan.on(0);
        plan.on(1);
        plan.start(0);
        plan.run(4);
        Check.due("STOPPED", plan.partition(0), WindowPlan.STOPPED);
        plan.start(1);
        plan.run(2);
        Check.due("none waits there", plan.semaphore(0), 1);
        Check.due("rests", Check.process(plan, 0), "0 0 0 1 -1 1 0 0 0 -1");
    }
}
