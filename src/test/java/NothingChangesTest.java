import java.util.Random;

/**
 * "A call that answers REFUSED or FULL changes nothing", over drawn runs: an object that gets wrong calls in between
 * goes on answering as one that doesn't. RefusedBoundaryTest has each kind of wrong call by itself.
 */
final class NothingChangesTest {
    private static final int[] WRONG = {-1, 3, 4, 8, 10, 31, 61, 0, 1, 2, Integer.MIN_VALUE, Integer.MAX_VALUE};

    private final Random random;
    private final WindowPlan plain = new WindowPlan();
    private final WindowPlan bothered = new WindowPlan();
    /** Asked instead of the objects, whose calls are counted. */
    private final Model model = new Model();
    private final int[] orders = new int[8];
    /** Few enough to stay, with all the questions at the end, under the 512 calls that an object is promised for. */
    private int draws = 1;
    private int refused;

    private NothingChangesTest(long seed) {
        random = new Random(seed);
    }

    public static void main(String[] args) {
        Check.promise(8, "A call that answers REFUSED or FULL changes nothing");
        int refused = 0;
        for (long seed = 0; seed < 1000 && Check.allRight(); seed++) {
            NothingChangesTest test = new NothingChangesTest(seed);
            test.oneRun();
            refused += test.refused;
        }
        Check.due("many calls were refused", refused > 50000 ? 1 : 0, 1);
        Check.end();
    }

    private void oneRun() {
        int made = random.nextInt(3) == 0 ? 8 : 1 + random.nextInt(8);
        for (int i = 0; i < made; i++) {
            both(0, random.nextInt(3), 1 + random.nextInt(5), 0, 0);
            both(1, random.nextInt(3), random.nextInt(3), random.nextInt(2) * random.nextInt(9), random.nextInt(9));
            int length = random.nextInt(3) == 0 ? 8 : random.nextInt(8);
            for (int j = 0; j < length; j++) {
                both(2, i, random.nextInt(5), 1 + random.nextInt(3), 0);
                orders[i]++;
            }
        }
        for (int i = 0; i <= 2; i++) {
            both(3, i, random.nextInt(3), 0, 0);
        }
        draws = 2;
        for (int i = 0; i < 20; i++) {
            both(4, random.nextInt(3), 0, 0, 0);
            both(5, random.nextInt(made), 0, 0, 0);
            both(6, 1 + random.nextInt(5), 0, 0, 0);
        }
        Check.due("all answers", Check.all(bothered), Check.all(plain));
    }

    private void both(int method, int a, int b, int c, int d) {
        bother();
        model.call(method, a, b, c, d);
        int want = Model.call(plain, method, a, b, c, d);
        Check.due("method " + method, Model.call(bothered, method, a, b, c, d), want);
    }

    /** Calls drawn at random, of which only those that must be refused are made. */
    private void bother() {
        for (int i = 0; i < draws; i++) {
            int method = random.nextInt(7);
            int a = wrong();
            int b = wrong();
            int c = wrong();
            int d = wrong();
            if (mustRefuse(method, a, b, c, d)) {
                refused++;
                int got = Model.call(bothered, method, a, b, c, d);
                Check.due("refused or full", got == WindowPlan.REFUSED || got == WindowPlan.FULL ? 1 : 0, 1);
            }
        }
    }

    private int wrong() {
        return WRONG[random.nextInt(WRONG.length)];
    }

    private int partition(int partition) {
        return model.call(7, partition, 0, 0, 0);
    }

    private int count(int what) {
        return model.call(11, what, 0, 0, 0);
    }

    private boolean mustRefuse(int method, int a, int b, int c, int d) {
        boolean fixed = partition(0) + partition(1) + partition(2) > 0;
        boolean noPartition = a < 0 || a > 2;
        boolean noProcess = a < 0 || a >= count(5);
        switch (method) {
            case 0:
                return fixed || noPartition || b < 1 || b > 30 || count(6) == 8;
            case 1:
                return fixed || noPartition || b < 0 || b > 9 || c < 0 || c > 60 || d < 0 || d > 60 || count(5) == 8;
            case 2:
                return fixed || noProcess || orders[a] == 8 || b < 0 || b > 4 || (b == 0 ? c < 1 || c > 20 : c < 0 || c > 3);
            case 3:
                return noPartition || b < 0 || b > 2;
            case 4:
                return noPartition || partition(a) == WindowPlan.ON;
            case 5:
                return noProcess || model.call(8, a, 0, 0, 0) != WindowPlan.RESTING;
            default:
                return a < 1 || a > 60;
        }
    }
}
