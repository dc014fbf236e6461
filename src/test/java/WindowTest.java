/** Promise 2: window. */
final class WindowTest {
    public static void main(String[] args) {
        eightFit();
        edges();
        onlyWhileAllAreOff();
        theyFollowOneAnother();
        madeAfterTimeHasPassed();
        Check.end();
    }

    private static void eightFit() {
        WindowPlan plan = new WindowPlan();
        for (int i = 1; i <= 8; i++) {
            Check.due("window " + i, plan.window(i % 3, i), i);
        }
        Check.due("a ninth window", plan.window(0, 1), WindowPlan.FULL);
        Check.due("a ninth window out of range", plan.window(3, 1), WindowPlan.REFUSED);
        Check.due("a ninth window of no length", plan.window(0, 0), WindowPlan.REFUSED);
        Check.due("windows", plan.count(6), 8);
        plan.on(2);
        Check.due("a ninth window with a partition ON", plan.window(0, 1), WindowPlan.REFUSED);
    }

    private static void edges() {
        WindowPlan plan = new WindowPlan();
        Check.due("partition -1", plan.window(-1, 5), WindowPlan.REFUSED);
        Check.due("partition 3", plan.window(3, 5), WindowPlan.REFUSED);
        Check.due("length 0", plan.window(0, 0), WindowPlan.REFUSED);
        Check.due("length -1", plan.window(0, -1), WindowPlan.REFUSED);
        Check.due("length 31", plan.window(0, 31), WindowPlan.REFUSED);
        Check.due("greatest numbers", plan.window(Integer.MAX_VALUE, Integer.MAX_VALUE), WindowPlan.REFUSED);
        Check.due("least numbers", plan.window(Integer.MIN_VALUE, Integer.MIN_VALUE), WindowPlan.REFUSED);
        Check.due("no window yet", plan.count(6), 0);
        Check.due("length 1", plan.window(0, 1), 1);
        Check.due("length 30, partition 2", plan.window(2, 30), 2);
        Check.due("a partition may have more windows", plan.window(2, 30), 3);
    }

    private static void onlyWhileAllAreOff() {
        for (int partition = 0; partition <= 2; partition++) {
            WindowPlan plan = new WindowPlan();
            plan.window(partition, 1);
            Check.made(plan, partition, 0, 0, 1, 4, 0);
            plan.action(partition, 2);
            plan.on(partition);
            Check.due("a partition is ON", plan.window(0, 1), WindowPlan.REFUSED);
            plan.start(0);
            plan.run(2);
            Check.due("it is STOPPED", plan.partition(partition), WindowPlan.STOPPED);
            Check.due("a partition is STOPPED", plan.window(0, 1), WindowPlan.REFUSED);
            Check.due("windows", plan.count(6), 1);
        }
    }

    private static void theyFollowOneAnother() {
        WindowPlan plan = new WindowPlan();
        plan.window(2, 2);
        plan.window(0, 1);
        plan.window(2, 1);
        plan.window(1, 3);
        int[] partitions = {2, 2, 0, 2, 1, 1, 1};
        int[] left = {2, 1, 1, 1, 3, 2, 1};
        for (int time = 0; time < 30; time++) {
            Check.due("partition at " + time, plan.count(1), partitions[time % 7]);
            Check.due("ticks left at " + time, plan.count(2), left[time % 7]);
            plan.run(1);
        }
    }

    private static void madeAfterTimeHasPassed() {
        WindowPlan plan = new WindowPlan();
        plan.run(5);
        plan.window(1, 3);
        Check.due("the row began at time 0", plan.count(2), 1);
        plan.window(2, 4);
        Check.due("with a second window", plan.count(1), 2);
        Check.due("its ticks left", plan.count(2), 2);
    }
}
