/** Promise 7: start. */
final class StartTest {
    public static void main(String[] args) {
        answers();
        notWhileReadyOrWaiting();
        deadlineIsFromTheTime();
        emptyProgram();
        startedFirstIsFirst();
        Check.end();
    }

    private static void answers() {
        WindowPlan plan = new WindowPlan();
        Check.due("no process", plan.start(0), WindowPlan.REFUSED);
        Check.made(plan, 0, 0, 0, 0, 0, 1);
        Check.made(plan, 0, 0, 1, 0, 0, 1);
        Check.made(plan, 1, 0, 0, 0, 0, 1);
        Check.due("of an OFF partition", plan.start(0), WindowPlan.REFUSED);
        plan.on(0);
        int[] wrong = {-1, 3, 8, Integer.MIN_VALUE, Integer.MAX_VALUE};
        for (int w : wrong) {
            Check.due("start(" + w + ")", plan.start(w), WindowPlan.REFUSED);
        }
        Check.due("with a period", plan.start(1), WindowPlan.REFUSED);
        Check.due("not released", Check.process(plan, 1), "0 0 0 0 -1 0 0 0 0 0");
        Check.due("of another OFF partition", plan.start(2), WindowPlan.REFUSED);
        Check.due("start", plan.start(0), 0);
        Check.due("released", Check.process(plan, 0), "1 0 0 1 -1 0 0 0 0 -1");
        Check.due("it is READY", plan.start(0), WindowPlan.REFUSED);
        Check.due("and stays so", Check.process(plan, 0), "1 0 0 1 -1 0 0 0 0 -1");
    }

    private static void notWhileReadyOrWaiting() {
        WindowPlan plan = new WindowPlan();
        plan.window(0, 1);
        Check.made(plan, 0, 0, 0, 0, 0, 1, 2, 0);
        Check.made(plan, 0, 0, 0, 0, 1, 0);
        plan.on(0);
        plan.start(0);
        plan.run(2);
        Check.due("it is WAITING", plan.start(0), WindowPlan.REFUSED);
        Check.due("it waits", Check.process(plan, 0), "2 1 0 1 -1 0 0 1 0 -1");
        plan.start(1);
        plan.run(1);
        Check.due("its round is over", Check.process(plan, 0), "0 0 0 1 -1 0 0 1 9 -1");
        Check.due("start again", plan.start(0), 0);
        Check.due("a second round", Check.process(plan, 0), "1 0 0 2 -1 0 0 1 9 -1");
    }

    private static void deadlineIsFromTheTime() {
        WindowPlan plan = new WindowPlan();
        plan.window(0, 1);
        Check.made(plan, 0, 0, 0, 60, 0, 2);
        plan.run(33);
        plan.on(0);
        plan.start(0);
        Check.due("deadline", plan.state(0, 4), 93);
        plan.run(2);
        Check.due("none when the round is over", plan.state(0, 4), -1);
        plan.run(60);
        Check.due("not missed", plan.state(0, 5), 0);
    }

    private static void emptyProgram() {
        WindowPlan plan = new WindowPlan();
        plan.process(0, 0, 0, 9);
        plan.on(0);
        for (int i = 1; i <= 3; i++) {
            Check.due("start", plan.start(0), 0);
            Check.due("over at once", Check.process(plan, 0), "0 0 0 " + i + " -1 0 0 0 0 -1");
        }
    }

    private static void startedFirstIsFirst() {
        WindowPlan plan = new WindowPlan();
        plan.window(0, 1);
        Check.made(plan, 0, 5, 10, 0, 0, 1);
        Check.made(plan, 0, 5, 0, 0, 0, 1);
        Check.made(plan, 0, 5, 0, 0, 0, 1);
        plan.on(0);
        plan.start(2);
        plan.start(1);
        plan.run(1);
        Check.due("the one that was started first", plan.state(2, 7), 1);
        plan.run(1);
        Check.due("then the one started next", plan.state(1, 7), 1);
        Check.due("the one released in the tick is last", plan.state(0, 7), 0);
    }
}
