/** Promise 11: port, with SEND and TAKE. */
final class PortTest {
    public static void main(String[] args) {
        answers();
        oldestFirst();
        fourFit();
        firstByRankTakes();
        takerOfAnotherPartition();
        lastOrderIsTake();
        Check.end();
    }

    private static void answers() {
        WindowPlan plan = new WindowPlan();
        int[] wrong = {-1, 4, Integer.MIN_VALUE, Integer.MAX_VALUE};
        for (int w : wrong) {
            Check.due("port(" + w + ")", plan.port(w), WindowPlan.REFUSED);
        }
        plan.window(0, 1);
        Check.made(plan, 0, 0, 0, 0, 1, 0, 1, 1, 1, 1, 1, 2, 1, 2, 1, 2, 1, 3);
        plan.on(0);
        plan.start(0);
        plan.run(1);
        int[] due = {1, 2, 3, 1};
        for (int i = 0; i <= 3; i++) {
            Check.due("port " + i, plan.port(i), due[i]);
        }
    }

    private static void oldestFirst() {
        WindowPlan plan = new WindowPlan();
        plan.window(0, 1);
        Check.made(plan, 0, 9, 0, 0, 1, 2);
        Check.made(plan, 0, 8, 0, 0, 1, 2, 1, 2);
        Check.made(plan, 0, 7, 0, 0, 2, 2);
        plan.on(0);
        plan.start(0);
        plan.run(1);
        plan.start(0);
        plan.start(1);
        plan.run(1);
        Check.due("all are there", plan.port(2), 4);
        int[] letters = {8, 16, 9, 9};
        for (int i = 0; i < letters.length; i++) {
            plan.start(2);
            plan.run(1);
            Check.due("letter " + i, plan.state(2, 8), letters[i]);
            Check.due("left", plan.port(2), 3 - i);
        }
        plan.start(2);
        plan.run(1);
        Check.due("none left", plan.state(2, 0), WindowPlan.WAITING);
        Check.due("its letter stays", plan.state(2, 8), 9);
    }

    private static void fourFit() {
        WindowPlan plan = new WindowPlan();
        plan.window(0, 1);
        Check.made(plan, 0, 9, 1, 0, 1, 3);
        Check.made(plan, 0, 8, 0, 0, 2, 3, 2, 3, 2, 3, 2, 3);
        plan.on(0);
        plan.run(4);
        Check.due("four", plan.port(3), 4);
        Check.due("none lost", plan.count(3), 0);
        plan.run(2);
        Check.due("still four", plan.port(3), 4);
        Check.due("two lost", plan.count(3), 2);
        Check.due("the sender's round is over all the same", plan.state(0, 0), WindowPlan.RESTING);
        plan.start(1);
        plan.run(1);
        Check.due("the new ones were lost", plan.state(1, 8), 32);
        Check.due("three lost", plan.count(3), 3);
        Check.due("empty", plan.port(3), 0);
    }

    private static void firstByRankTakes() {
        WindowPlan plan = new WindowPlan();
        plan.window(0, 1);
        Check.made(plan, 0, 2, 0, 0, 2, 0, 0, 9);
        Check.made(plan, 0, 5, 0, 0, 2, 0, 0, 9);
        Check.made(plan, 0, 5, 0, 0, 2, 0, 0, 9);
        Check.made(plan, 0, 9, 0, 0, 2, 1, 0, 9);
        Check.made(plan, 0, 0, 0, 0, 1, 0);
        plan.on(0);
        plan.start(0);
        plan.run(1);
        plan.start(3);
        plan.start(2);
        plan.run(1);
        plan.start(1);
        plan.run(1);
        int[] taker = {2, 1, 0};
        for (int i = 0; i < 3; i++) {
            // the sender has the least priority: the taker's WORK has to be over first
            plan.start(4);
            plan.run(10);
            for (int j = i + 1; j < 3; j++) {
                Check.due("waits on", plan.state(taker[j], 0), WindowPlan.WAITING);
            }
            Check.due("the taker's letter", plan.state(taker[i], 8), 4 + 8 * (i + 1));
            Check.due("the row stays empty", plan.port(0), 0);
            Check.due("the taker is over", plan.state(taker[i], 0), WindowPlan.RESTING);
        }
        Check.due("at another port", plan.state(3, 0), WindowPlan.WAITING);
    }

    private static void takerOfAnotherPartition() {
        WindowPlan plan = new WindowPlan();
        plan.window(0, 2);
        plan.window(1, 2);
        Check.made(plan, 0, 1, 0, 0, 2, 0, 0, 1);
        Check.made(plan, 1, 1, 0, 0, 2, 0, 0, 1);
        Check.made(plan, 1, 0, 0, 0, 1, 0);
        plan.on(0);
        plan.on(1);
        plan.start(0);
        plan.start(1);
        plan.run(3);
        plan.start(2);
        plan.run(1);
        Check.due("waited for longer", Check.process(plan, 0), "1 1 0 1 -1 0 0 0 10 -1");
        Check.due("waits on", Check.process(plan, 1), "2 0 0 1 -1 0 0 0 0 -1");
        plan.run(1);
        Check.due("works in its own window", Check.process(plan, 0), "0 0 0 1 -1 0 0 1 10 -1");
    }

    private static void lastOrderIsTake() {
        WindowPlan plan = new WindowPlan();
        plan.window(0, 1);
        Check.made(plan, 0, 1, 0, 30, 2, 0);
        Check.made(plan, 0, 0, 0, 0, 1, 0);
        plan.on(0);
        plan.start(0);
        plan.run(1);
        Check.due("waits, with a deadline", Check.process(plan, 0), "2 0 0 1 30 0 0 0 0 -1");
        plan.start(1);
        plan.run(1);
        Check.due("over", Check.process(plan, 0), "0 0 0 1 -1 0 0 0 9 -1");
    }
}
