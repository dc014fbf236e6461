/**
 * "A call that answers REFUSED or FULL changes nothing": each reason for it, in each state of the object in which the
 * reason can be, on an object of its own. Behind the call that object answers as a twin that never got it, at once and
 * in what follows.
 */
final class RefusedBoundaryTest {
    /** The states: all OFF and full of windows, processes and orders; in the middle of a run; STOPPED; without all. */
    private static final int FULL_AND_OFF = 0;
    private static final int RUNNING = 1;
    private static final int STOPPED = 2;
    private static final int NEW = 3;
    private static final int HALF_AND_OFF = 4;

    private static final int LOW = Integer.MIN_VALUE;
    private static final int HIGH = Integer.MAX_VALUE;

    public static void main(String[] args) {
        windows();
        processes();
        orders();
        actions();
        switches();
        starts();
        runs();
        Check.end();
    }

    /** Every call is given as in Model.call: the method by its place in the face, then its arguments. */
    private static void changesNothing(int state, int due, int... call) {
        WindowPlan plain = made(state);
        WindowPlan bothered = made(state);
        String text = "call of method " + call[0] + " in state " + state;
        Check.due(text, Model.call(bothered, call[0], argument(call, 1), argument(call, 2), argument(call, 3), argument(call, 4)), due);
        Check.due(text + ", at once", Check.all(bothered), Check.all(plain));
        follow(bothered);
        follow(plain);
        Check.due(text + ", in what follows", Check.all(bothered), Check.all(plain));
    }

    private static int argument(int[] call, int place) {
        return place < call.length ? call[place] : 0;
    }

    private static WindowPlan made(int state) {
        WindowPlan plan = new WindowPlan();
        if (state == NEW) {
            return plan;
        }
        half(plan);
        if (state == FULL_AND_OFF) {
            fill(plan);
        } else if (state != HALF_AND_OFF) {
            runTo(plan, state == RUNNING ? 7 : 10);
            Check.due("partition 0", plan.partition(0), state == RUNNING ? WindowPlan.ON : WindowPlan.STOPPED);
        }
        return plan;
    }

    private static void half(WindowPlan plan) {
        int[][] windows = {{0, 2}, {1, 1}, {0, 1}, {2, 1}, {1, 2}};
        for (int[] w : windows) {
            plan.window(w[0], w[1]);
        }
        Check.made(plan, 0, 3, 0, 9, 0, 2, 2, 1, 0, 1);
        Check.made(plan, 0, 5, 4, 0, 0, 1, 3, 2);
        Check.made(plan, 1, 2, 0, 3, 1, 0, 4, 3);
        Check.made(plan, 1, 7, 3, 2, 2, 0, 0, 1);
        Check.made(plan, 2, 1, 0, 0, 0, 1);
        plan.action(0, 2);
        plan.action(1, 1);
    }

    private static void fill(WindowPlan plan) {
        for (int i = 5; i <= 7; i++) {
            plan.window(i - 5, 1);
            plan.process(i - 5, i, i, i);
        }
        for (int i = 0; i <= 7; i++) {
            boolean more = true;
            for (int j = 0; j < 8 && more; j++) {
                more = plan.order(i, 0, 1 + j % 2) < 8;
            }
        }
    }

    /** At 7 process 0 is READY, 2 is WAITING and 4 is of an OFF partition; 0 stops its partition in tick 9. */
    private static void runTo(WindowPlan plan, int time) {
        plan.on(0);
        plan.on(1);
        plan.start(0);
        plan.start(2);
        plan.run(time);
        Check.due("process 0", plan.state(0, 0), time == 7 ? WindowPlan.READY : WindowPlan.RESTING);
        Check.due("process 2", plan.state(2, 0), WindowPlan.WAITING);
    }

    /** Makes what can still be made, switches all on, and lets some time pass. */
    private static void follow(WindowPlan plan) {
        plan.window(1, 3);
        plan.process(1, 4, 2, 3);
        plan.order(plan.count(5) - 1, 0, 2);
        for (int i = 0; i <= 2; i++) {
            plan.on(i);
        }
        for (int i = 0; i <= 7; i++) {
            plan.start(i);
        }
        plan.run(13);
    }

    private static void windows() {
        Check.promise(2, "REFUSED or FULL changes nothing: window");
        changesNothing(FULL_AND_OFF, WindowPlan.FULL, 0, 1, 1);
        int[] states = {NEW, HALF_AND_OFF, FULL_AND_OFF, RUNNING, STOPPED};
        for (int state : states) {
            changesNothing(state, WindowPlan.REFUSED, 0, -1, 1);
            changesNothing(state, WindowPlan.REFUSED, 0, 3, 1);
            changesNothing(state, WindowPlan.REFUSED, 0, 0, 0);
            changesNothing(state, WindowPlan.REFUSED, 0, 0, 31);
            changesNothing(state, WindowPlan.REFUSED, 0, LOW, LOW);
            changesNothing(state, WindowPlan.REFUSED, 0, HIGH, HIGH);
        }
        changesNothing(RUNNING, WindowPlan.REFUSED, 0, 2, 1);
        changesNothing(STOPPED, WindowPlan.REFUSED, 0, 2, 1);
    }

    private static void processes() {
        Check.promise(3, "REFUSED or FULL changes nothing: process");
        changesNothing(FULL_AND_OFF, WindowPlan.FULL, 1, 1, 1, 1, 1);
        int[] states = {NEW, HALF_AND_OFF, FULL_AND_OFF, RUNNING, STOPPED};
        int[][] wrong = {
            {-1, 0, 0, 0}, {3, 0, 0, 0}, {0, -1, 0, 0}, {0, 10, 0, 0}, {0, 0, -1, 0}, {0, 0, 61, 0}, {0, 0, 0, -1}, {0, 0, 0, 61},
            {LOW, LOW, LOW, LOW}, {HIGH, HIGH, HIGH, HIGH},
        };
        for (int state : states) {
            for (int[] w : wrong) {
                changesNothing(state, WindowPlan.REFUSED, 1, w[0], w[1], w[2], w[3]);
            }
        }
        changesNothing(RUNNING, WindowPlan.REFUSED, 1, 2, 1, 1, 1);
        changesNothing(STOPPED, WindowPlan.REFUSED, 1, 2, 1, 1, 1);
    }

    private static void orders() {
        Check.promise(4, "REFUSED or FULL changes nothing: order");
        for (int process = 0; process <= 7; process++) {
            changesNothing(FULL_AND_OFF, WindowPlan.FULL, 2, process, 0, 1);
        }
        int[] states = {HALF_AND_OFF, FULL_AND_OFF, RUNNING, STOPPED};
        int[][] wrong = {
            {-1, 0, 1}, {8, 0, 1}, {0, -1, 1}, {0, 5, 1}, {0, 0, 0}, {0, 0, 21}, {0, 1, -1}, {0, 1, 4}, {0, 2, -1}, {0, 2, 4},
            {0, 3, -1}, {0, 3, 4}, {0, 4, -1}, {0, 4, 4}, {LOW, LOW, LOW}, {HIGH, HIGH, HIGH},
        };
        for (int state : states) {
            for (int[] w : wrong) {
                changesNothing(state, WindowPlan.REFUSED, 2, w[0], w[1], w[2]);
            }
        }
        changesNothing(NEW, WindowPlan.REFUSED, 2, 0, 0, 1);
        changesNothing(HALF_AND_OFF, WindowPlan.REFUSED, 2, 5, 0, 1);
        changesNothing(RUNNING, WindowPlan.REFUSED, 2, 2, 0, 1);
        changesNothing(STOPPED, WindowPlan.REFUSED, 2, 2, 0, 1);
    }

    private static void actions() {
        Check.promise(5, "REFUSED changes nothing: action");
        int[] states = {NEW, HALF_AND_OFF, RUNNING, STOPPED};
        int[][] wrong = {{-1, 0}, {3, 0}, {0, -1}, {0, 3}, {1, -1}, {1, 3}, {2, -1}, {2, 3}, {LOW, LOW}, {HIGH, HIGH}};
        for (int state : states) {
            for (int[] w : wrong) {
                changesNothing(state, WindowPlan.REFUSED, 3, w[0], w[1]);
            }
        }
    }

    private static void switches() {
        Check.promise(6, "REFUSED changes nothing: on");
        int[] states = {NEW, HALF_AND_OFF, RUNNING, STOPPED};
        int[] wrong = {-1, 3, LOW, HIGH};
        for (int state : states) {
            for (int w : wrong) {
                changesNothing(state, WindowPlan.REFUSED, 4, w);
            }
        }
        changesNothing(RUNNING, WindowPlan.REFUSED, 4, 0);
        changesNothing(RUNNING, WindowPlan.REFUSED, 4, 1);
        changesNothing(STOPPED, WindowPlan.REFUSED, 4, 1);
    }

    private static void starts() {
        Check.promise(7, "REFUSED changes nothing: start");
        int[] states = {NEW, HALF_AND_OFF, RUNNING, STOPPED};
        int[] wrong = {-1, 5, 8, LOW, HIGH};
        for (int state : states) {
            for (int w : wrong) {
                changesNothing(state, WindowPlan.REFUSED, 5, w);
            }
        }
        for (int process = 0; process <= 4; process++) {
            changesNothing(HALF_AND_OFF, WindowPlan.REFUSED, 5, process);
        }
        for (int process = 0; process <= 4; process++) {
            changesNothing(RUNNING, WindowPlan.REFUSED, 5, process);
            changesNothing(STOPPED, WindowPlan.REFUSED, 5, process);
        }
    }

    private static void runs() {
        Check.promise(8, "REFUSED changes nothing: run");
        int[] states = {NEW, HALF_AND_OFF, RUNNING, STOPPED};
        int[] wrong = {-1, 0, 61, LOW, HIGH};
        for (int state : states) {
            for (int w : wrong) {
                changesNothing(state, WindowPlan.REFUSED, 6, w);
            }
        }
    }
}
