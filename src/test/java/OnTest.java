/** Promise 6: on. */
final class OnTest {
    public static void main(String[] args) {
        answers();
        releasesBeginAtTheTime();
        fromStopped();
        othersStayAsTheyAre();
        Check.end();
    }

    private static void answers() {
        WindowPlan plan = new WindowPlan();
        int[] wrong = {-1, 3, Integer.MIN_VALUE, Integer.MAX_VALUE};
        for (int w : wrong) {
            Check.due("on(" + w + ")", plan.on(w), WindowPlan.REFUSED);
        }
        for (int i = 0; i <= 2; i++) {
            Check.due("on", plan.on(i), 0);
            Check.due("ON", plan.partition(i), WindowPlan.ON);
            Check.due("on again", plan.on(i), WindowPlan.REFUSED);
        }
    }

    private static void releasesBeginAtTheTime() {
        WindowPlan plan = new WindowPlan();
        plan.window(0, 4);
        Check.made(plan, 0, 0, 3, 0, 0, 1);
        Check.made(plan, 0, 0, 0, 0, 0, 1);
        Check.made(plan, 1, 0, 5, 0, 0, 1);
        plan.run(7);
        Check.due("never ON", plan.state(0, 9), -1);
        Check.due("nothing is released while OFF", plan.state(0, 3), 0);
        plan.on(0);
        Check.due("the next release is now", plan.state(0, 9), 7);
        Check.due("not yet released", plan.state(0, 0), WindowPlan.RESTING);
        Check.due("without a period", plan.state(1, 9), -1);
        Check.due("of another partition", plan.state(2, 9), -1);
        plan.run(1);
        Check.due("released and worked", Check.process(plan, 0), "0 0 0 1 -1 0 0 1 0 10");
        Check.due("not started", Check.process(plan, 1), "0 0 0 0 -1 0 0 0 0 -1");
    }

    private static void fromStopped() {
        WindowPlan plan = new WindowPlan();
        plan.window(0, 1);
        Check.made(plan, 0, 9, 7, 2, 0, 1, 1, 1, 2, 1, 0, 5);
        plan.action(0, 2);
        plan.on(0);
        plan.run(3);
        Check.due("STOPPED", plan.partition(0), WindowPlan.STOPPED);
        Check.due("rests", Check.process(plan, 0), "0 0 0 1 -1 1 0 2 8 7");
        plan.run(8);
        Check.due("the release has passed by", plan.state(0, 9), 7);
        Check.due("on", plan.on(0), 0);
        Check.due("what it did stays", Check.process(plan, 0), "0 0 0 1 -1 1 0 2 8 11");
        Check.due("its action stays", plan.action(0, 3), WindowPlan.REFUSED);
        plan.run(2);
        Check.due("a new round", Check.process(plan, 0), "1 3 1 2 13 1 0 4 16 18");
        plan.run(1);
        Check.due("STOPPED anew", plan.partition(0), WindowPlan.STOPPED);
    }

    private static void othersStayAsTheyAre() {
        WindowPlan plan = new WindowPlan();
        plan.window(0, 10);
        Check.made(plan, 0, 9, 4, 9, 0, 3, 4, 0);
        Check.made(plan, 1, 9, 4, 9, 0, 3, 4, 0);
        plan.on(0);
        plan.run(2);
        String before = Check.process(plan, 0);
        plan.on(1);
        Check.due("a process of an ON partition", Check.process(plan, 0), before);
        Check.due("partition 2", plan.partition(2), WindowPlan.OFF);
    }
}
