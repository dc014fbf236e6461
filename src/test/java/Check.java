/** Counts the answers that are not as due, and ends a test with exit code 1 if there was one. */
final class Check {
    private static int wrong = 0;
    private static int looked = 0;
    private static String told = "";

    private Check() {
    }

    /** The promise and the words of the document that the answers from now on belong to. */
    static void promise(int number, String words) {
        told = "promise " + number + ", \"" + words + "\": ";
    }

    static void due(String what, long got, long want) {
        if (got == want) {
            looked++;
        } else {
            due(what, Long.toString(got), Long.toString(want));
        }
    }

    static void due(String what, String got, String want) {
        looked++;
        if (!got.equals(want)) {
            wrong++;
            System.out.println(told + what + ": answered " + got + ", due is " + want);
        }
    }

    static boolean allRight() {
        return wrong == 0;
    }

    static void end() {
        System.out.println(looked + " answers looked at, " + wrong + " not as due");
        if (wrong != 0) {
            System.exit(1);
        }
    }

    /** All that the questions tell about a plan, as one text. */
    static String all(WindowPlan plan) {
        StringBuilder text = new StringBuilder();
        text.append("counts");
        for (int i = -1; i <= 7; i++) {
            text.append(' ').append(plan.count(i));
        }
        text.append(" partitions");
        for (int i = -1; i <= 3; i++) {
            text.append(' ').append(plan.partition(i));
        }
        text.append(" ports");
        for (int i = -1; i <= 4; i++) {
            text.append(' ').append(plan.port(i));
        }
        text.append(" semaphores");
        for (int i = -1; i <= 4; i++) {
            text.append(' ').append(plan.semaphore(i));
        }
        for (int i = 0; i < plan.count(5); i++) {
            text.append(" process").append(i).append(' ').append(process(plan, i));
        }
        return text.toString();
    }

    /** The ten answers of state for one process, 0 to 9. */
    static String process(WindowPlan plan, int process) {
        StringBuilder text = new StringBuilder();
        for (int what = 0; what <= 9; what++) {
            text.append(what == 0 ? "" : " ").append(plan.state(process, what));
        }
        return text.toString();
    }

    /** A process of a partition, with its program as pairs of order and number. */
    static int made(WindowPlan plan, int partition, int priority, int period, int limit, int... program) {
        int process = plan.process(partition, priority, period, limit);
        for (int i = 0; i + 1 < program.length; i += 2) {
            due("order " + (i / 2) + " of process " + process, plan.order(process, program[i], program[i + 1]), i / 2 + 1);
        }
        return process;
    }
}
