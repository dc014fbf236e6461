/** Promise 13: count. */
final class CountTest {
    public static void main(String[] args) {
        answers();
        withoutWindows();
        idleTicks();
        offPartitionHasTheTimeToo();
        Check.end();
    }

    private static void answers() {
        WindowPlan plan = new WindowPlan();
        int[] wrong = {-1, 7, Integer.MIN_VALUE, Integer.MAX_VALUE};
        for (int w : wrong) {
            Check.due("count(" + w + ")", plan.count(w), WindowPlan.REFUSED);
        }
        plan.window(1, 9);
        plan.window(2, 30);
        Check.made(plan, 2, 0, 2, 0, 1, 0);
        plan.process(2, 0, 0, 0);
        plan.process(2, 0, 0, 0);
        plan.on(2);
        plan.run(30);
        int[] due = {30, 2, 9, 7, 21, 3, 2};
        for (int what = 0; what < due.length; what++) {
            Check.due("count(" + what + ")", plan.count(what), due[what]);
        }
        for (int w : wrong) {
            Check.due("count(" + w + ")", plan.count(w), WindowPlan.REFUSED);
        }
    }

    private static void withoutWindows() {
        WindowPlan plan = new WindowPlan();
        Check.made(plan, 0, 0, 2, 0, 0, 1);
        plan.on(0);
        plan.run(10);
        Check.due("no partition has the time", plan.count(1), WindowPlan.REFUSED);
        Check.due("no window, no ticks left", plan.count(2), WindowPlan.REFUSED);
        Check.due("no tick had an ON partition", plan.count(4), 0);
        Check.due("no work", plan.state(0, 7), 0);
        Check.due("released and skipped all the same", plan.state(0, 6), 4);
    }

    private static void idleTicks() {
        WindowPlan plan = new WindowPlan();
        plan.window(0, 2);
        plan.window(1, 3);
        Check.made(plan, 0, 0, 10, 0, 0, 1);
        plan.on(0);
        plan.run(10);
        Check.due("only its own ticks are counted", plan.count(4), 3);
        plan.on(1);
        plan.run(10);
        Check.due("and those of the other, now ON", plan.count(4), 12);
    }

    private static void offPartitionHasTheTimeToo() {
        WindowPlan plan = new WindowPlan();
        plan.window(1, 2);
        Check.due("an OFF one", plan.count(1), 1);
        Check.due("all its ticks are left", plan.count(2), 2);
        plan.run(1);
        Check.due("one is left", plan.count(2), 1);
        plan.run(1);
        Check.due("again all", plan.count(2), 2);
        Check.due("OFF ones are not counted", plan.count(4), 0);
    }
}
