/** Promise 9: partition. */
final class PartitionTest {
    public static void main(String[] args) {
        WindowPlan plan = new WindowPlan();
        int[] wrong = {-1, 3, Integer.MIN_VALUE, Integer.MAX_VALUE};
        for (int w : wrong) {
            Check.due("partition(" + w + ")", plan.partition(w), WindowPlan.REFUSED);
        }
        Check.made(plan, 1, 0, 0, 5, 0, 1);
        plan.action(1, 2);
        for (int i = 0; i <= 2; i++) {
            Check.due("OFF", plan.partition(i), WindowPlan.OFF);
        }
        plan.on(1);
        plan.start(0);
        plan.run(5);
        Check.due("0 is OFF", plan.partition(0), WindowPlan.OFF);
        Check.due("1 is ON", plan.partition(1), WindowPlan.ON);
        Check.due("2 is OFF", plan.partition(2), WindowPlan.OFF);
        plan.run(1);
        Check.due("1 is STOPPED", plan.partition(1), WindowPlan.STOPPED);
        plan.on(1);
        Check.due("1 is ON again", plan.partition(1), WindowPlan.ON);
        Check.end();
    }
}
