/** Promises 8, 11 and 12: each sentence on a boundary of SEND, TAKE, UP and DOWN, with a test of its own. */
final class MessageBoundaryTest {
    private static final int WORK = 0;
    private static final int SEND = 1;
    private static final int TAKE = 2;
    private static final int UP = 3;
    private static final int DOWN = 4;

    public static void main(String[] args) {
        fourMessagesAtMost();
        lostIsTheNewOne();
        lostCountsOverAllPorts();
        rowGoesRoundAndRound();
        emptyPortWaits();
        waitingTakesIt();
        moreTakersThanRoom();
        leastAndGreatestMessage();
        letterStaysWhileWaiting();
        takeIsTheLastOrder();

        countOfNineAtMost();
        countOfZeroWaits();
        waitingGoesOnWithoutTheCount();
        downIsTheLastOrder();
        nineAndDownToZero();

        sharedByAllPartitions();
        waitersByRank();
        portAndSemaphoreOfOneNumber();
        Check.end();
    }

    /** One window for partition 0, then process 0 sends into port 1, process 1 takes from there. */
    private static WindowPlan sendAndTake() {
        WindowPlan plan = new WindowPlan();
        plan.window(0, 1);
        Check.made(plan, 0, 9, 0, 0, SEND, 1);
        Check.made(plan, 0, 5, 0, 0, TAKE, 1);
        plan.on(0);
        return plan;
    }

    private static void tickOf(WindowPlan plan, int process) {
        Check.due("start(" + process + ")", plan.start(process), 0);
        plan.run(1);
    }

    private static void fourMessagesAtMost() {
        Check.promise(11, "PORTS have a row of at most 4 messages; with 4 there it is LOST");
        WindowPlan plan = sendAndTake();
        for (int i = 1; i <= 4; i++) {
            tickOf(plan, 0);
            Check.due("in the row", plan.port(1), i);
            Check.due("lost", plan.count(3), 0);
        }
        for (int i = 1; i <= 3; i++) {
            tickOf(plan, 0);
            Check.due("still in the row", plan.port(1), 4);
            Check.due("lost", plan.count(3), i);
            Check.due("the sender's round is over", plan.state(0, 0), WindowPlan.RESTING);
        }
    }

    private static void lostIsTheNewOne() {
        Check.promise(11, "with 4 there it is LOST (the new one); TAKE: the oldest message is taken");
        WindowPlan plan = sendAndTake();
        for (int i = 1; i <= 6; i++) {
            tickOf(plan, 0);
        }
        for (int i = 1; i <= 4; i++) {
            tickOf(plan, 1);
            Check.due("letter", plan.state(1, 8), 8 * i);
            Check.due("left", plan.port(1), 4 - i);
        }
        tickOf(plan, 1);
        Check.due("none of the lost ones is there", plan.state(1, 0), WindowPlan.WAITING);
    }

    private static void lostCountsOverAllPorts() {
        Check.promise(13, "messages LOST (3)");
        WindowPlan plan = new WindowPlan();
        plan.window(0, 1);
        for (int port = 0; port <= 3; port++) {
            Check.made(plan, 0, 9, 0, 0, SEND, port, SEND, port, SEND, port, SEND, port, SEND, port, SEND, port);
        }
        plan.on(0);
        for (int port = 0; port <= 3; port++) {
            tickOf(plan, port);
            Check.due("lost", plan.count(3), 2 * (port + 1));
            Check.due("full", plan.port(port), 4);
        }
    }

    private static void rowGoesRoundAndRound() {
        Check.promise(11, "it goes to the end of the row; TAKE: the oldest message is taken");
        WindowPlan plan = sendAndTake();
        int sent = 0;
        int taken = 0;
        int[] sends = {4, 2, 3, 1, 3, 4};
        int[] takes = {2, 3, 1, 3, 4, 4};
        for (int step = 0; step < sends.length; step++) {
            for (int i = 0; i < sends[step]; i++) {
                tickOf(plan, 0);
                sent++;
            }
            for (int i = 0; i < takes[step]; i++) {
                tickOf(plan, 1);
                taken++;
                Check.due("letter", plan.state(1, 8), 8 * taken);
            }
            Check.due("in the row", plan.port(1), sent - taken);
            Check.due("none lost", plan.count(3), 0);
        }
    }

    private static void emptyPortWaits() {
        Check.promise(11, "TAKE: there is none: the process WAITS there");
        WindowPlan plan = sendAndTake();
        tickOf(plan, 1);
        Check.due("waits", Check.process(plan, 1), "2 0 0 1 -1 0 0 0 0 -1");
        plan.run(30);
        Check.due("waits on", Check.process(plan, 1), "2 0 0 1 -1 0 0 0 0 -1");
        Check.due("the row", plan.port(1), 0);
    }

    private static void waitingTakesIt() {
        Check.promise(11, "If processes WAIT at the port, the one that comes first by RANK takes it; else the row");
        WindowPlan plan = sendAndTake();
        tickOf(plan, 1);
        tickOf(plan, 0);
        Check.due("taken", Check.process(plan, 1), "0 0 0 1 -1 0 0 0 8 -1");
        Check.due("not in the row", plan.port(1), 0);
        tickOf(plan, 0);
        Check.due("nobody waits: in the row", plan.port(1), 1);
        Check.due("none lost", plan.count(3), 0);
    }

    /** Five takers, five messages: as all wait, the row of four is not needed. */
    private static void moreTakersThanRoom() {
        Check.promise(11, "If processes WAIT at the port ... takes it; with 4 there it is LOST (more takers than 4)");
        WindowPlan plan = new WindowPlan();
        plan.window(0, 1);
        for (int i = 0; i <= 4; i++) {
            Check.made(plan, 0, 9, 0, 0, TAKE, 2);
        }
        Check.made(plan, 0, 0, 0, 0, SEND, 2, SEND, 2, SEND, 2, SEND, 2, SEND, 2);
        plan.on(0);
        for (int i = 0; i <= 5; i++) {
            plan.start(i);
        }
        plan.run(1);
        for (int i = 0; i <= 4; i++) {
            Check.due("taker " + i, Check.process(plan, i), "0 0 0 1 -1 0 0 0 13 -1");
        }
        Check.due("the row", plan.port(2), 0);
        Check.due("lost", plan.count(3), 0);
    }

    private static void leastAndGreatestMessage() {
        Check.promise(11, "SEND: the message is process + 8 * ROUNDS");
        WindowPlan plan = new WindowPlan();
        plan.window(0, 1);
        Check.made(plan, 0, 9, 0, 0, SEND, 0);
        Check.made(plan, 0, 0, 0, 0, TAKE, 0);
        for (int i = 2; i <= 6; i++) {
            plan.process(0, 0, 0, 0);
        }
        Check.made(plan, 0, 9, 1, 0, SEND, 3, TAKE, 3);
        plan.on(0);
        plan.start(1);
        tickOf(plan, 0);
        Check.due("of process 0 in its first round", plan.state(1, 8), 8);
        Check.due("of process 7 in its first round", plan.state(7, 8), 7 + 8);
        for (int i = 0; i < 20; i++) {
            plan.run(60);
        }
        Check.due("of process 7 in its last round", plan.state(7, 8), 7 + 8 * 1201);
    }

    private static void letterStaysWhileWaiting() {
        Check.promise(10, "What a process took last is its LETTER (0 at first)");
        WindowPlan plan = sendAndTake();
        tickOf(plan, 1);
        Check.due("0 at first", plan.state(1, 8), 0);
        tickOf(plan, 0);
        Check.due("the first", plan.state(1, 8), 8);
        tickOf(plan, 1);
        Check.due("the first still, while it waits", plan.state(1, 8), 8);
        tickOf(plan, 0);
        Check.due("the second", plan.state(1, 8), 16);
        Check.due("the sender took none", plan.state(0, 8), 0);
    }

    private static void takeIsTheLastOrder() {
        Check.promise(8, "is READY at its next order (or its round is over, if there is none) (TAKE)");
        WindowPlan plan = new WindowPlan();
        plan.window(0, 1);
        Check.made(plan, 0, 5, 0, 20, TAKE, 0);
        Check.made(plan, 0, 4, 0, 20, TAKE, 0, WORK, 2);
        Check.made(plan, 0, 9, 0, 0, SEND, 0, SEND, 0, WORK, 1);
        plan.on(0);
        plan.start(0);
        plan.start(1);
        plan.run(1);
        plan.start(2);
        plan.run(1);
        Check.due("no next order: over", Check.process(plan, 0), "0 0 0 1 -1 0 0 0 10 -1");
        Check.due("READY at its next", Check.process(plan, 1), "1 1 0 1 20 0 0 0 10 -1");
    }

    /** Process 0 gives up to eight, process 1 takes one, in partition 0 with all the time. */
    private static WindowPlan upAndDown(int ups) {
        WindowPlan plan = new WindowPlan();
        plan.window(0, 1);
        plan.process(0, 9, 0, 0);
        for (int i = 0; i < ups; i++) {
            plan.order(0, UP, 2);
        }
        Check.made(plan, 0, 5, 0, 0, DOWN, 2);
        plan.on(0);
        return plan;
    }

    private static void countOfNineAtMost() {
        Check.promise(12, "else the count grows by 1, at most to 9");
        WindowPlan plan = upAndDown(8);
        tickOf(plan, 0);
        Check.due("eight", plan.semaphore(2), 8);
        tickOf(plan, 0);
        Check.due("nine, not sixteen", plan.semaphore(2), 9);
        Check.due("the round is over all the same", Check.process(plan, 0), "0 0 0 2 -1 0 0 0 0 -1");
        tickOf(plan, 1);
        Check.due("eight: what was above nine is gone", plan.semaphore(2), 8);
        plan = upAndDown(1);
        for (int i = 1; i <= 11; i++) {
            tickOf(plan, 0);
            Check.due("one by one", plan.semaphore(2), Math.min(i, 9));
        }
    }

    private static void countOfZeroWaits() {
        Check.promise(12, "DOWN: the count falls by 1; it is 0: the process WAITS there");
        WindowPlan plan = upAndDown(1);
        tickOf(plan, 0);
        tickOf(plan, 1);
        Check.due("from 1 to 0, without waiting", plan.state(1, 0), WindowPlan.RESTING);
        Check.due("count", plan.semaphore(2), 0);
        tickOf(plan, 1);
        Check.due("waits", Check.process(plan, 1), "2 0 0 2 -1 0 0 0 0 -1");
        Check.due("not below 0", plan.semaphore(2), 0);
    }

    private static void waitingGoesOnWithoutTheCount() {
        Check.promise(12, "UP: if processes WAIT at the semaphore, the one that comes first by RANK goes on; else the count");
        WindowPlan plan = upAndDown(2);
        tickOf(plan, 1);
        tickOf(plan, 0);
        Check.due("went on", plan.state(1, 0), WindowPlan.RESTING);
        Check.due("only the second UP grows the count", plan.semaphore(2), 1);
    }

    private static void downIsTheLastOrder() {
        Check.promise(8, "is READY at its next order (or its round is over, if there is none) (DOWN)");
        WindowPlan plan = new WindowPlan();
        plan.window(0, 1);
        Check.made(plan, 0, 5, 0, 20, DOWN, 0);
        Check.made(plan, 0, 4, 0, 20, DOWN, 0, WORK, 2);
        Check.made(plan, 0, 9, 0, 0, UP, 0, UP, 0, WORK, 1);
        plan.on(0);
        plan.start(0);
        plan.start(1);
        plan.run(1);
        plan.start(2);
        plan.run(1);
        Check.due("no next order: over", Check.process(plan, 0), "0 0 0 1 -1 0 0 0 0 -1");
        Check.due("READY at its next", Check.process(plan, 1), "1 1 0 1 20 0 0 0 0 -1");
    }

    private static void nineAndDownToZero() {
        Check.promise(12, "semaphores a count 0 .. 9");
        WindowPlan plan = upAndDown(1);
        for (int i = 1; i <= 9; i++) {
            tickOf(plan, 0);
        }
        for (int i = 8; i >= 0; i--) {
            tickOf(plan, 1);
            Check.due("count", plan.semaphore(2), i);
            Check.due("goes on at once", plan.state(1, 0), WindowPlan.RESTING);
        }
        tickOf(plan, 1);
        Check.due("the tenth waits", plan.state(1, 0), WindowPlan.WAITING);
    }

    private static void sharedByAllPartitions() {
        Check.promise(8, "All are shared by all partitions");
        WindowPlan plan = new WindowPlan();
        plan.window(0, 1);
        plan.window(1, 1);
        plan.window(2, 1);
        Check.made(plan, 0, 0, 0, 0, SEND, 3, UP, 3);
        Check.made(plan, 1, 0, 0, 0, TAKE, 3, SEND, 0);
        Check.made(plan, 2, 0, 0, 0, DOWN, 3, TAKE, 0);
        for (int i = 0; i <= 2; i++) {
            plan.on(i);
            plan.start(i);
        }
        plan.run(3);
        Check.due("from 0 to 1", plan.state(1, 8), 8);
        Check.due("from 1 to 2, behind DOWN", plan.state(2, 8), 9);
        Check.due("all are over", plan.state(0, 0) + plan.state(1, 0) + plan.state(2, 0), 0);
        Check.due("port", plan.port(3) + plan.port(0), 0);
        Check.due("semaphore", plan.semaphore(3), 0);
    }

    /** Of partitions 0, 1 and 2; the first by RANK is neither the first by number nor the first that came. */
    private static void waitersByRank() {
        Check.promise(8, "RANK: higher priority first, then the one that has been WAITING for longer");
        for (int order = TAKE; order <= DOWN; order += 2) {
            WindowPlan plan = new WindowPlan();
            plan.window(2, 1);
            plan.window(1, 1);
            plan.window(0, 1);
            Check.made(plan, 0, 7, 0, 0, order, 1);
            Check.made(plan, 1, 7, 0, 0, order, 1);
            Check.made(plan, 2, 6, 0, 0, order, 1);
            Check.made(plan, 0, 0, 0, 0, order - 1, 1);
            for (int i = 0; i <= 2; i++) {
                plan.on(i);
                plan.start(i);
            }
            plan.run(3);
            int[] due = {1, 0, 2};
            for (int i = 0; i <= 2; i++) {
                plan.start(3);
                plan.run(3);
                for (int j = 0; j <= 2; j++) {
                    Check.due("process " + due[j], plan.state(due[j], 0), j <= i ? WindowPlan.RESTING : WindowPlan.WAITING);
                }
            }
        }
    }

    private static void portAndSemaphoreOfOneNumber() {
        Check.promise(8, "WAITING at a port or semaphore (of the same number)");
        WindowPlan plan = new WindowPlan();
        plan.window(0, 1);
        Check.made(plan, 0, 5, 0, 0, TAKE, 3);
        Check.made(plan, 0, 5, 0, 0, DOWN, 3);
        Check.made(plan, 0, 9, 0, 0, UP, 3);
        Check.made(plan, 0, 9, 0, 0, SEND, 3);
        plan.on(0);
        plan.start(0);
        tickOf(plan, 1);
        tickOf(plan, 2);
        Check.due("UP lets the one at the semaphore go on", plan.state(1, 0), WindowPlan.RESTING);
        Check.due("not the one at the port", plan.state(0, 0), WindowPlan.WAITING);
        tickOf(plan, 1);
        tickOf(plan, 3);
        Check.due("SEND is for the one at the port", plan.state(0, 0), WindowPlan.RESTING);
        Check.due("not for the one at the semaphore", plan.state(1, 0), WindowPlan.WAITING);
    }
}
