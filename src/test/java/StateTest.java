/** Promise 10: state. The single answers are looked at in the other tests too. */
final class StateTest {
    public static void main(String[] args) {
        answers();
        longRounds();
        whereItWaits();
        Check.end();
    }

    private static void answers() {
        WindowPlan plan = new WindowPlan();
        for (int what = -1; what <= 10; what++) {
            Check.due("no process", plan.state(0, what), WindowPlan.REFUSED);
        }
        plan.process(0, 0, 0, 0);
        int[] wrong = {-1, 10, Integer.MIN_VALUE, Integer.MAX_VALUE};
        for (int w : wrong) {
            Check.due("state(0, " + w + ")", plan.state(0, w), WindowPlan.REFUSED);
        }
        int[] others = {-1, 1, 7, 8, Integer.MIN_VALUE, Integer.MAX_VALUE};
        for (int w : others) {
            Check.due("state(" + w + ", 0)", plan.state(w, 0), WindowPlan.REFUSED);
        }
    }

    private static void longRounds() {
        WindowPlan plan = new WindowPlan();
        plan.window(0, 1);
        Check.made(plan, 0, 5, 10, 40, 1, 0, 2, 0, 0, 20, 0, 20, 0, 9);
        plan.on(0);
        plan.run(45);
        Check.due("its 45th tick", Check.process(plan, 0), "1 4 5 1 -1 1 4 45 8 50");
        plan.run(4);
        Check.due("over", Check.process(plan, 0), "0 0 0 1 -1 1 4 49 8 50");
        plan.run(60);
        // the rounds begin at 0, 50, 100 and 150, each with 49 ticks of WORK
        Check.due("in its third round", Check.process(plan, 0), "1 2 9 3 140 2 8 107 24 110");
        plan.run(60);
        Check.due("in its fourth round", Check.process(plan, 0), "1 2 19 4 190 3 13 166 32 170");
    }

    private static void whereItWaits() {
        WindowPlan plan = new WindowPlan();
        plan.window(0, 1);
        Check.made(plan, 0, 5, 0, 0, 3, 0, 1, 0, 2, 3, 0, 2);
        Check.made(plan, 0, 5, 0, 0, 0, 1, 4, 1, 0, 2);
        Check.made(plan, 0, 1, 0, 0, 1, 3, 3, 1);
        plan.on(0);
        plan.start(0);
        plan.start(1);
        plan.run(2);
        Check.due("at the port", Check.process(plan, 0), "2 2 0 1 -1 0 0 0 0 -1");
        Check.due("at the semaphore", Check.process(plan, 1), "2 1 0 1 -1 0 0 1 0 -1");
        plan.start(2);
        plan.run(1);
        Check.due("behind the port", Check.process(plan, 0), "1 3 1 1 -1 0 0 1 10 -1");
        Check.due("the lower one has not given its signal", Check.process(plan, 1), "2 1 0 1 -1 0 0 1 0 -1");
        Check.due("the lower one", Check.process(plan, 2), "1 1 0 1 -1 0 0 0 0 -1");
    }
}
