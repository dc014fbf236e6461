/** Promises 5 to 7: each sentence on a boundary of action, on and start, with a test of its own. */
final class SwitchBoundaryTest {
    private static final int[] FAR = {Integer.MIN_VALUE, -65536, -256, -8, 64, 256, 65536, Integer.MAX_VALUE};

    public static void main(String[] args) {
        actionOfPartitionZeroToTwo();
        actionZeroToTwo();
        actionIsZeroAtFirst();
        actionFromNowOn();
        actionInAnyState();

        onOfPartitionZeroToTwo();
        onIsRefusedIfOn();
        onFromOffOrStopped();
        onGivesTheTimeAsNextRelease();
        onLeavesOnlyPeriodsANextRelease();
        onFindsNoDeadlines();
        onTouchesItsOwnPartitionAlone();

        startOfAProcessThatIsThere();
        startOnlyWithoutAPeriod();
        startOnlyIfResting();
        startOnlyOfAnOnPartition();
        startOfAnEmptyProgram();
        Check.end();
    }

    private static void actionOfPartitionZeroToTwo() {
        Check.promise(5, "REFUSED for numbers out of range (partition)");
        WindowPlan plan = new WindowPlan();
        Check.due("-1", plan.action(-1, 0), WindowPlan.REFUSED);
        Check.due("3", plan.action(3, 0), WindowPlan.REFUSED);
        for (int far : FAR) {
            Check.due("partition " + far, plan.action(far, 0), WindowPlan.REFUSED);
        }
        for (int i = 0; i <= 2; i++) {
            Check.due("partition " + i, plan.action(i, 0), 0);
        }
    }

    private static void actionZeroToTwo() {
        Check.promise(5, "The partition's ACTION is 0 .. 2; REFUSED for numbers out of range");
        WindowPlan plan = new WindowPlan();
        Check.due("-1", plan.action(0, -1), WindowPlan.REFUSED);
        Check.due("3", plan.action(0, 3), WindowPlan.REFUSED);
        for (int far : FAR) {
            Check.due("action " + far, plan.action(0, far), WindowPlan.REFUSED);
        }
        for (int i = 0; i <= 2; i++) {
            Check.due("action " + i, plan.action(0, i), 0);
        }
    }

    /** WORK 1 and WORK 20 in its own window, with a deadline at 2. */
    private static WindowPlan late(int partition) {
        WindowPlan plan = new WindowPlan();
        plan.window(partition, 1);
        Check.made(plan, partition, 0, 0, 2, 0, 1, 0, 20);
        return plan;
    }

    private static void actionIsZeroAtFirst() {
        Check.promise(5, "an ACTION for missed deadlines: 0 NOTE (0 at first)");
        for (int i = 0; i <= 2; i++) {
            WindowPlan plan = late(i);
            plan.on(i);
            plan.start(0);
            plan.run(3);
            Check.due("noted, that is all", Check.process(plan, 0), "1 1 2 1 -1 1 0 3 0 -1");
            Check.due("partition " + i, plan.partition(i), WindowPlan.ON);
        }
    }

    private static void actionFromNowOn() {
        Check.promise(5, "The partition's ACTION is 0 .. 2 from now on");
        WindowPlan plan = late(1);
        plan.action(1, 2);
        plan.on(1);
        plan.start(0);
        plan.run(2);
        Check.due("in the last moment", plan.action(1, 1), 0);
        plan.run(1);
        Check.due("ON", plan.partition(1), WindowPlan.ON);
        Check.due("AGAIN, and its first order done", Check.process(plan, 0), "1 1 0 1 -1 1 0 3 0 -1");
    }

    private static void actionInAnyState() {
        Check.promise(5, "0. REFUSED for numbers out of range (and for nothing else)");
        WindowPlan plan = late(0);
        plan.action(0, 2);
        plan.on(0);
        Check.due("while ON", plan.action(0, 2), 0);
        plan.start(0);
        plan.run(3);
        Check.due("STOPPED", plan.partition(0), WindowPlan.STOPPED);
        Check.due("while STOPPED", plan.action(0, 0), 0);
        plan.on(0);
        plan.start(0);
        plan.run(3);
        Check.due("NOTE since then", plan.partition(0), WindowPlan.ON);
        Check.due("missed twice", plan.state(0, 5), 2);
    }

    private static void onOfPartitionZeroToTwo() {
        Check.promise(6, "REFUSED if it is ON, or for another number");
        WindowPlan plan = new WindowPlan();
        Check.due("-1", plan.on(-1), WindowPlan.REFUSED);
        Check.due("3", plan.on(3), WindowPlan.REFUSED);
        for (int far : FAR) {
            Check.due("partition " + far, plan.on(far), WindowPlan.REFUSED);
        }
        for (int i = 0; i <= 2; i++) {
            Check.due("partition " + i, plan.on(i), 0);
        }
    }

    private static void onIsRefusedIfOn() {
        Check.promise(6, "REFUSED if it is ON");
        WindowPlan plan = late(2);
        plan.on(2);
        Check.due("at once", plan.on(2), WindowPlan.REFUSED);
        plan.start(0);
        plan.run(1);
        Check.due("later", plan.on(2), WindowPlan.REFUSED);
        Check.due("its process is where it was", Check.process(plan, 0), "1 1 0 1 2 0 0 1 0 -1");
    }

    private static void onFromOffOrStopped() {
        Check.promise(6, "To SWITCH a partition ON: it is ON (From OFF or STOPPED)");
        WindowPlan plan = late(1);
        plan.action(1, 2);
        Check.due("from OFF", plan.on(1), 0);
        plan.start(0);
        plan.run(3);
        Check.due("STOPPED", plan.partition(1), WindowPlan.STOPPED);
        Check.due("from STOPPED", plan.on(1), 0);
        Check.due("ON", plan.partition(1), WindowPlan.ON);
        plan.start(0);
        plan.run(2);
        Check.due("works again", Check.process(plan, 0), "1 1 1 2 5 1 0 4 0 -1");
    }

    private static void onGivesTheTimeAsNextRelease() {
        Check.promise(6, "at time t: those with a period have t as their next release");
        WindowPlan plan = new WindowPlan();
        Check.made(plan, 0, 0, 60, 1, 0, 1);
        plan.action(0, 2);
        plan.on(0);
        Check.due("at 0", plan.state(0, 9), 0);
        plan.run(2);
        Check.due("STOPPED at its deadline", plan.partition(0), WindowPlan.STOPPED);
        plan.on(0);
        Check.due("at 2, not at 60", plan.state(0, 9), 2);
        plan.run(1);
        Check.due("released in tick 2", Check.process(plan, 0), "1 0 0 2 3 1 0 0 0 62");
    }

    private static void onLeavesOnlyPeriodsANextRelease() {
        Check.promise(6, "its processes, those with a period, have t as their next release");
        WindowPlan plan = new WindowPlan();
        plan.process(0, 0, 0, 0);
        plan.process(0, 0, 1, 0);
        plan.run(9);
        plan.on(0);
        Check.due("without a period", plan.state(0, 9), -1);
        Check.due("with one of 1", plan.state(1, 9), 9);
    }

    /** Its deadline from before the STOP would be at 10; it must not come back with the partition. */
    private static void onFindsNoDeadlines() {
        Check.promise(6, "it is ON; its processes are RESTING without DEADLINES");
        WindowPlan plan = new WindowPlan();
        plan.window(0, 1);
        Check.made(plan, 0, 0, 0, 1, 4, 0);
        Check.made(plan, 0, 9, 0, 10, 0, 20);
        plan.action(0, 2);
        plan.on(0);
        plan.start(0);
        plan.start(1);
        plan.run(2);
        plan.on(0);
        Check.due("the one", Check.process(plan, 0), "0 0 0 1 -1 1 0 0 0 -1");
        Check.due("the other", Check.process(plan, 1), "0 0 0 1 -1 0 0 1 0 -1");
        plan.run(20);
        Check.due("nothing is missed", plan.state(1, 5), 0);
        Check.due("nothing works", plan.state(1, 7), 1);
    }

    private static void onTouchesItsOwnPartitionAlone() {
        Check.promise(6, "SWITCHES the partition ON (no other)");
        WindowPlan plan = new WindowPlan();
        plan.window(1, 1);
        Check.made(plan, 1, 0, 9, 9, 0, 20);
        Check.made(plan, 2, 0, 9, 9, 0, 20);
        plan.on(1);
        plan.run(3);
        Check.due("on", plan.on(0), 0);
        Check.due("of the ON one", Check.process(plan, 0), "1 0 3 1 9 0 0 3 0 9");
        Check.due("of the OFF one", Check.process(plan, 1), "0 0 0 0 -1 0 0 0 0 -1");
        Check.due("partition 2", plan.partition(2), WindowPlan.OFF);
    }

    private static void startOfAProcessThatIsThere() {
        Check.promise(7, "A process ... is RELEASED: 0. REFUSED else");
        WindowPlan plan = new WindowPlan();
        plan.on(0);
        Check.due("0, without any", plan.start(0), WindowPlan.REFUSED);
        plan = new WindowPlan();
        plan.process(0, 0, 0, 0);
        plan.process(0, 0, 0, 0);
        plan.on(0);
        Check.due("-1", plan.start(-1), WindowPlan.REFUSED);
        Check.due("2, of two", plan.start(2), WindowPlan.REFUSED);
        for (int far : FAR) {
            Check.due("process " + far, plan.start(far), WindowPlan.REFUSED);
        }
        Check.due("0", plan.start(0), 0);
        Check.due("1", plan.start(1), 0);
        plan = new WindowPlan();
        for (int i = 0; i <= 7; i++) {
            plan.process(0, 0, 0, 0);
        }
        plan.on(0);
        Check.due("7, of eight", plan.start(7), 0);
        Check.due("8, of eight", plan.start(8), WindowPlan.REFUSED);
    }

    private static void startOnlyWithoutAPeriod() {
        Check.promise(7, "A process without a period");
        WindowPlan plan = new WindowPlan();
        Check.made(plan, 0, 0, 1, 0, 0, 1);
        Check.made(plan, 0, 0, 60, 0, 0, 1);
        plan.on(0);
        for (int i = 0; i <= 1; i++) {
            Check.due("RESTING, but with a period", plan.start(i), WindowPlan.REFUSED);
            Check.due("not released", Check.process(plan, i), "0 0 0 0 -1 0 0 0 0 0");
        }
    }

    private static void startOnlyIfResting() {
        Check.promise(7, "RESTING");
        WindowPlan plan = new WindowPlan();
        plan.window(0, 1);
        Check.made(plan, 0, 0, 0, 0, 0, 1, 4, 0);
        plan.on(0);
        Check.due("RESTING", plan.start(0), 0);
        Check.due("READY", plan.start(0), WindowPlan.REFUSED);
        plan.run(2);
        Check.due("WAITING", plan.start(0), WindowPlan.REFUSED);
        Check.due("one round, in which it waits", Check.process(plan, 0), "2 1 0 1 -1 0 0 1 0 -1");
    }

    private static void startOnlyOfAnOnPartition() {
        Check.promise(7, "of an ON partition");
        for (int i = 0; i <= 2; i++) {
            WindowPlan plan = late(i);
            plan.action(i, 2);
            plan.on((i + 1) % 3);
            plan.on((i + 2) % 3);
            Check.due("OFF, the others are ON", plan.start(0), WindowPlan.REFUSED);
            plan.on(i);
            Check.due("ON", plan.start(0), 0);
            plan.run(3);
            Check.due("STOPPED, the others are ON", plan.start(0), WindowPlan.REFUSED);
            Check.due("one round", plan.state(0, 3), 1);
        }
    }

    private static void startOfAnEmptyProgram() {
        Check.promise(7, "is RELEASED; with an empty program the round is over at once");
        WindowPlan plan = new WindowPlan();
        plan.process(0, 0, 0, 1);
        plan.on(0);
        Check.due("start", plan.start(0), 0);
        Check.due("over", Check.process(plan, 0), "0 0 0 1 -1 0 0 0 0 -1");
        Check.due("so it can be started at once again", plan.start(0), 0);
        Check.due("over", Check.process(plan, 0), "0 0 0 2 -1 0 0 0 0 -1");
        plan.run(5);
        Check.due("nothing was missed", plan.state(0, 5), 0);
    }
}
