/** Promise 4: order. */
final class OrderTest {
    public static void main(String[] args) {
        eightFit();
        edges();
        onlyWhileAllAreOff();
        doneInTheirRow();
        Check.end();
    }

    private static void eightFit() {
        WindowPlan plan = new WindowPlan();
        plan.process(0, 0, 0, 0);
        plan.process(0, 0, 0, 0);
        for (int i = 1; i <= 8; i++) {
            Check.due("order " + i, plan.order(0, 0, i), i);
        }
        Check.due("a ninth order", plan.order(0, 0, 1), WindowPlan.FULL);
        Check.due("a ninth order out of range", plan.order(0, 0, 21), WindowPlan.REFUSED);
        Check.due("a ninth order of no kind", plan.order(0, 5, 1), WindowPlan.REFUSED);
        Check.due("the other process has a program of its own", plan.order(1, 4, 3), 1);
        plan.on(1);
        Check.due("a ninth order with a partition ON", plan.order(0, 0, 1), WindowPlan.REFUSED);
    }

    private static void edges() {
        WindowPlan plan = new WindowPlan();
        Check.due("no process yet", plan.order(0, 0, 1), WindowPlan.REFUSED);
        plan.process(0, 0, 0, 0);
        int low = Integer.MIN_VALUE;
        int high = Integer.MAX_VALUE;
        int[][] wrong = {
            {-1, 0, 1}, {1, 0, 1}, {8, 0, 1}, {0, -1, 1}, {0, 5, 1}, {0, 0, 0}, {0, 0, -1}, {0, 0, 21}, {0, 1, -1}, {0, 1, 4},
            {0, 2, -1}, {0, 2, 4}, {0, 3, -1}, {0, 3, 4}, {0, 4, -1}, {0, 4, 4}, {low, low, low}, {high, high, high},
        };
        for (int[] w : wrong) {
            Check.due("order(" + w[0] + ", " + w[1] + ", " + w[2] + ")", plan.order(w[0], w[1], w[2]), WindowPlan.REFUSED);
        }
        int[][] right = {{0, 1}, {0, 20}, {1, 0}, {1, 3}, {2, 0}, {2, 3}, {3, 0}, {3, 3}};
        for (int i = 0; i < right.length; i++) {
            Check.due("order " + i, plan.order(0, right[i][0], right[i][1]), i + 1);
        }
        plan.process(0, 0, 0, 0);
        Check.due("DOWN 0", plan.order(1, 4, 0), 1);
        Check.due("DOWN 3", plan.order(1, 4, 3), 2);
    }

    private static void onlyWhileAllAreOff() {
        for (int partition = 0; partition <= 2; partition++) {
            WindowPlan plan = new WindowPlan();
            Check.made(plan, partition, 0, 1, 1, 0, 2);
            plan.action(partition, 2);
            plan.on(partition);
            Check.due("a partition is ON", plan.order(0, 0, 1), WindowPlan.REFUSED);
            plan.run(2);
            Check.due("it is STOPPED", plan.partition(partition), WindowPlan.STOPPED);
            Check.due("a partition is STOPPED", plan.order(0, 0, 1), WindowPlan.REFUSED);
        }
    }

    private static void doneInTheirRow() {
        WindowPlan plan = new WindowPlan();
        plan.window(0, 30);
        Check.made(plan, 0, 0, 0, 0, 0, 2, 3, 1, 0, 1, 1, 2, 3, 1, 2, 2, 4, 1, 0, 20);
        plan.on(0);
        plan.start(0);
        plan.run(1);
        Check.due("in the first WORK", Check.process(plan, 0), "1 0 1 1 -1 0 0 1 0 -1");
        plan.run(1);
        Check.due("behind the first WORK", Check.process(plan, 0), "1 1 0 1 -1 0 0 2 0 -1");
        Check.due("UP is not done yet", plan.semaphore(1), 0);
        plan.run(1);
        Check.due("behind the second WORK", Check.process(plan, 0), "1 3 0 1 -1 0 0 3 0 -1");
        Check.due("UP is done", plan.semaphore(1), 1);
        plan.run(1);
        Check.due("in the last WORK", Check.process(plan, 0), "1 7 1 1 -1 0 0 4 8 -1");
        Check.due("UP and DOWN are done", plan.semaphore(1), 1);
        Check.due("SEND and TAKE are done", plan.port(2), 0);
        plan.run(18);
        Check.due("nearly done", Check.process(plan, 0), "1 7 19 1 -1 0 0 22 8 -1");
        plan.run(1);
        Check.due("over with the last tick", Check.process(plan, 0), "0 0 0 1 -1 0 0 23 8 -1");
    }
}
