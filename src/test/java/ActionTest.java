/** Promise 5: action, and what a missed deadline brings. */
final class ActionTest {
    private static final int NOTE = 0;
    private static final int AGAIN = 1;
    private static final int STOP = 2;

    public static void main(String[] args) {
        answers();
        note();
        again();
        againWhileWaiting();
        againIsReadyFromNow();
        stop();
        stopIsOfOnePartition();
        changedWhileOn();
        missedOutsideOfItsWindow();
        onlyTheFirstIsMissedBeforeStop();
        stoppedInItsWindowHasNoIdleTick();
        Check.end();
    }

    private static void answers() {
        WindowPlan plan = new WindowPlan();
        for (int partition = 0; partition <= 2; partition++) {
            for (int action = 0; action <= 2; action++) {
                Check.due("action", plan.action(partition, action), 0);
            }
            Check.due("action -1", plan.action(partition, -1), WindowPlan.REFUSED);
            Check.due("action 3", plan.action(partition, 3), WindowPlan.REFUSED);
        }
        Check.due("partition -1", plan.action(-1, 0), WindowPlan.REFUSED);
        Check.due("partition 3", plan.action(3, 0), WindowPlan.REFUSED);
        Check.due("least", plan.action(Integer.MIN_VALUE, Integer.MIN_VALUE), WindowPlan.REFUSED);
        Check.due("greatest", plan.action(Integer.MAX_VALUE, Integer.MAX_VALUE), WindowPlan.REFUSED);
    }

    /** One process: WORK 5, limit 3, started at time 0, with all the time. */
    private static WindowPlan late(int action) {
        WindowPlan plan = new WindowPlan();
        plan.window(1, 10);
        Check.made(plan, 1, 4, 0, 3, 3, 0, 0, 5);
        plan.action(1, action);
        plan.on(1);
        plan.start(0);
        plan.run(3);
        Check.due("before the deadline", Check.process(plan, 0), "1 1 3 1 3 0 0 3 0 -1");
        plan.run(1);
        return plan;
    }

    private static void note() {
        WindowPlan plan = late(NOTE);
        Check.due("noted", Check.process(plan, 0), "1 1 4 1 -1 1 0 4 0 -1");
        plan.run(1);
        Check.due("over", Check.process(plan, 0), "0 0 0 1 -1 1 0 5 0 -1");
        Check.due("ON", plan.partition(1), WindowPlan.ON);
    }

    private static void again() {
        WindowPlan plan = late(AGAIN);
        Check.due("begun again", Check.process(plan, 0), "1 1 1 1 -1 1 0 4 0 -1");
        Check.due("its first order was done twice", plan.semaphore(0), 2);
        plan.run(4);
        Check.due("over", Check.process(plan, 0), "0 0 0 1 -1 1 0 8 0 -1");
        Check.due("ON", plan.partition(1), WindowPlan.ON);
    }

    private static void againWhileWaiting() {
        WindowPlan plan = new WindowPlan();
        plan.window(0, 10);
        Check.made(plan, 0, 4, 0, 2, 0, 1, 4, 3);
        Check.made(plan, 0, 1, 0, 0, 3, 3);
        plan.action(0, AGAIN);
        plan.on(0);
        plan.start(0);
        plan.run(2);
        Check.due("waits", Check.process(plan, 0), "2 1 0 1 2 0 0 1 0 -1");
        plan.run(1);
        Check.due("READY at its first order, which it works", Check.process(plan, 0), "1 1 0 1 -1 1 0 2 0 -1");
        plan.start(1);
        plan.run(1);
        Check.due("waited anew, then went on", Check.process(plan, 0), "0 0 0 1 -1 1 0 2 0 -1");
        Check.due("nothing left", plan.semaphore(3), 0);
    }

    private static void againIsReadyFromNow() {
        WindowPlan plan = new WindowPlan();
        plan.window(0, 10);
        Check.made(plan, 0, 4, 0, 2, 0, 5);
        Check.made(plan, 0, 4, 0, 0, 0, 5);
        plan.action(0, AGAIN);
        plan.on(0);
        plan.start(0);
        plan.start(1);
        plan.run(2);
        Check.due("the first has worked", plan.state(0, 7), 2);
        plan.run(1);
        Check.due("now the other has been READY for longer", plan.state(1, 7), 1);
        Check.due("the first is at its begin", plan.state(0, 2), 0);
        plan.run(4);
        Check.due("the other is over", plan.state(1, 0), WindowPlan.RESTING);
        plan.run(5);
        Check.due("the first works 5 ticks anew", plan.state(0, 7), 7);
        Check.due("and is over", plan.state(0, 0), WindowPlan.RESTING);
    }

    private static void stop() {
        WindowPlan plan = new WindowPlan();
        plan.window(1, 10);
        Check.made(plan, 1, 4, 0, 3, 0, 5);
        Check.made(plan, 1, 9, 2, 9, 4, 0);
        plan.action(1, STOP);
        plan.on(1);
        plan.start(0);
        plan.run(3);
        Check.due("works", Check.process(plan, 0), "1 0 3 1 3 0 0 3 0 -1");
        Check.due("waits", Check.process(plan, 1), "2 0 0 1 9 0 1 0 0 4");
        plan.run(1);
        Check.due("STOPPED", plan.partition(1), WindowPlan.STOPPED);
        Check.due("rests", Check.process(plan, 0), "0 0 0 1 -1 1 0 3 0 -1");
        Check.due("rests too", Check.process(plan, 1), "0 0 0 1 -1 0 1 0 0 4");
        plan.run(20);
        Check.due("nothing is released", Check.process(plan, 1), "0 0 0 1 -1 0 1 0 0 4");
        Check.due("start is refused", plan.start(0), WindowPlan.REFUSED);
        Check.due("no tick with an ON partition and no WORK", plan.count(4), 0);
    }

    private static void stopIsOfOnePartition() {
        WindowPlan plan = new WindowPlan();
        plan.window(0, 10);
        Check.made(plan, 0, 0, 0, 0, 0, 9);
        Check.made(plan, 1, 0, 0, 1, 0, 9);
        Check.made(plan, 2, 0, 0, 0, 4, 0);
        plan.action(1, STOP);
        for (int i = 0; i <= 2; i++) {
            plan.on(i);
            plan.start(i);
        }
        plan.run(2);
        Check.due("partition 0", plan.partition(0), WindowPlan.ON);
        Check.due("partition 1", plan.partition(1), WindowPlan.STOPPED);
        Check.due("partition 2", plan.partition(2), WindowPlan.ON);
        Check.due("process 0", Check.process(plan, 0), "1 0 2 1 -1 0 0 2 0 -1");
        Check.due("process 1", Check.process(plan, 1), "0 0 0 1 -1 1 0 0 0 -1");
        Check.due("process 2", Check.process(plan, 2), "1 0 0 1 -1 0 0 0 0 -1");
    }

    private static void changedWhileOn() {
        WindowPlan plan = new WindowPlan();
        Check.made(plan, 0, 0, 4, 2, 4, 0);
        plan.window(0, 1);
        plan.on(0);
        plan.run(3);
        Check.due("noted", plan.partition(0), WindowPlan.ON);
        Check.due("while it is ON", plan.action(0, STOP), 0);
        plan.run(10);
        Check.due("the round goes on, without a deadline", plan.partition(0), WindowPlan.ON);
        Check.due("missed once", plan.state(0, 5), 1);
        Check.due("skipped", plan.state(0, 6), 3);
    }

    private static void missedOutsideOfItsWindow() {
        WindowPlan plan = new WindowPlan();
        plan.window(2, 30);
        Check.made(plan, 0, 0, 0, 7, 0, 1);
        plan.on(0);
        plan.start(0);
        plan.run(7);
        Check.due("the deadline's tick is still to come", Check.process(plan, 0), "1 0 0 1 7 0 0 0 0 -1");
        plan.run(1);
        Check.due("missed", Check.process(plan, 0), "1 0 0 1 -1 1 0 0 0 -1");
    }

    private static void onlyTheFirstIsMissedBeforeStop() {
        WindowPlan plan = new WindowPlan();
        Check.made(plan, 0, 0, 0, 2, 0, 1);
        Check.made(plan, 0, 9, 0, 2, 0, 1);
        Check.made(plan, 1, 9, 0, 2, 0, 1);
        plan.action(0, STOP);
        plan.on(0);
        plan.on(1);
        for (int i = 0; i <= 2; i++) {
            plan.start(i);
        }
        plan.run(3);
        Check.due("the first by number", plan.state(0, 5), 1);
        Check.due("the next one was RESTING then", plan.state(1, 5), 0);
        Check.due("one of another partition", plan.state(2, 5), 1);
    }

    private static void stoppedInItsWindowHasNoIdleTick() {
        WindowPlan plan = new WindowPlan();
        plan.window(0, 1);
        Check.made(plan, 0, 0, 0, 2, 4, 0);
        plan.action(0, STOP);
        plan.on(0);
        plan.start(0);
        plan.run(2);
        Check.due("two ticks without WORK", plan.count(4), 2);
        plan.run(5);
        Check.due("STOPPED before the processor was given", plan.count(4), 2);
    }
}
