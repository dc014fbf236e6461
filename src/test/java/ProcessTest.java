/** Promise 3: process. */
final class ProcessTest {
    public static void main(String[] args) {
        eightFit();
        edges();
        onlyWhileAllAreOff();
        emptyProgram();
        Check.end();
    }

    private static void eightFit() {
        WindowPlan plan = new WindowPlan();
        for (int i = 0; i < 8; i++) {
            Check.due("process " + i, plan.process(i % 3, i, i, i), i);
            Check.due("how many", plan.count(5), i + 1);
        }
        Check.due("a ninth process", plan.process(0, 0, 0, 0), WindowPlan.FULL);
        Check.due("a ninth process out of range", plan.process(0, 0, 0, 61), WindowPlan.REFUSED);
        Check.due("how many", plan.count(5), 8);
        plan.on(0);
        Check.due("a ninth process with a partition ON", plan.process(0, 0, 0, 0), WindowPlan.REFUSED);
    }

    private static void edges() {
        WindowPlan plan = new WindowPlan();
        int low = Integer.MIN_VALUE;
        int high = Integer.MAX_VALUE;
        int[][] wrong = {
            {-1, 0, 0, 0}, {3, 0, 0, 0}, {0, -1, 0, 0}, {0, 10, 0, 0}, {0, 0, -1, 0}, {0, 0, 61, 0}, {0, 0, 0, -1},
            {0, 0, 0, 61}, {low, low, low, low}, {high, high, high, high},
        };
        for (int[] w : wrong) {
            Check.due("process out of range", plan.process(w[0], w[1], w[2], w[3]), WindowPlan.REFUSED);
        }
        Check.due("none was made", plan.count(5), 0);
        Check.due("the least numbers", plan.process(0, 0, 0, 0), 0);
        Check.due("the greatest numbers", plan.process(2, 9, 60, 60), 1);
        Check.due("a limit above the period", plan.process(1, 9, 1, 60), 2);
    }

    private static void onlyWhileAllAreOff() {
        for (int partition = 0; partition <= 2; partition++) {
            WindowPlan plan = new WindowPlan();
            Check.made(plan, partition, 0, 1, 1, 0, 2);
            plan.action(partition, 2);
            plan.on(partition);
            Check.due("a partition is ON", plan.process(0, 0, 0, 0), WindowPlan.REFUSED);
            plan.run(2);
            Check.due("it is STOPPED", plan.partition(partition), WindowPlan.STOPPED);
            Check.due("a partition is STOPPED", plan.process(0, 0, 0, 0), WindowPlan.REFUSED);
            Check.due("how many", plan.count(5), 1);
        }
    }

    private static void emptyProgram() {
        WindowPlan plan = new WindowPlan();
        plan.window(0, 1);
        plan.process(0, 0, 2, 1);
        plan.on(0);
        plan.run(5);
        Check.due("rounds that are over at once", Check.process(plan, 0), "0 0 0 3 -1 0 0 0 0 6");
    }
}
