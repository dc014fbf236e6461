/** Promise 1: a new object has the state that the terms give. */
final class NewObjectTest {
    public static void main(String[] args) {
        WindowPlan plan = new WindowPlan();
        Check.due("a new object", Check.all(plan),
            "counts -1 0 -1 -1 0 0 0 0 -1 partitions -1 0 0 0 -1"
            + " ports -1 0 0 0 0 -1 semaphores -1 0 0 0 0 -1");
        plan.process(1, 2, 3, 4);
        Check.due("a new process", Check.process(plan, 0), "0 0 0 0 -1 0 0 0 0 -1");
        firstActionIsNote();
        objectsAreApart();
        Check.end();
    }

    private static void firstActionIsNote() {
        for (int partition = 0; partition <= 2; partition++) {
            WindowPlan plan = new WindowPlan();
            plan.window(partition, 5);
            Check.made(plan, partition, 0, 0, 2, 0, 9);
            plan.on(partition);
            plan.start(0);
            plan.run(3);
            Check.due("missed", plan.state(0, 5), 1);
            Check.due("a missed deadline is noted only", plan.partition(partition), WindowPlan.ON);
            Check.due("it goes on with its work", plan.state(0, 2), 3);
        }
    }

    private static void objectsAreApart() {
        WindowPlan one = new WindowPlan();
        WindowPlan other = new WindowPlan();
        one.window(0, 1);
        Check.made(one, 0, 0, 1, 0, 1, 0, 3, 0, 0, 1);
        one.on(0);
        one.run(9);
        Check.due("the other object is as new", Check.all(other), Check.all(new WindowPlan()));
    }
}
