import java.util.Random;

/**
 * "A call that answers REFUSED or FULL changes nothing": an object that gets wrong calls in between goes on answering
 * as one that doesn't. Questions change nothing either.
 */
final class NothingChangesTest {
    private static final int[] WRONG = {-1, 3, 4, 8, 10, 31, 61, 0, 1, 2, Integer.MIN_VALUE, Integer.MAX_VALUE};

    private final Random random;
    private final WindowPlan plain = new WindowPlan();
    private final WindowPlan bothered = new WindowPlan();
    private final int[] orders = new int[8];
    private int refused;

    private NothingChangesTest(long seed) {
        random = new Random(seed);
    }

    public static void main(String[] args) {
        int refused = 0;
        for (long seed = 0; seed < 600 && Check.allRight(); seed++) {
            NothingChangesTest test = new NothingChangesTest(seed);
            test.oneRun();
            refused += test.refused;
        }
        Check.due("many calls were refused", refused > 10000 ? 1 : 0, 1);
        Check.end();
    }

    private void oneRun() {
        int made = random.nextInt(3) == 0 ? 8 : 1 + random.nextInt(8);
        for (int i = 0; i < made; i++) {
            both(0, random.nextInt(3), 1 + random.nextInt(5), 0, 0);
            both(1, random.nextInt(3), random.nextInt(3), random.nextInt(2) * random.nextInt(9), random.nextInt(9));
            int length = random.nextInt(3) == 0 ? 8 : random.nextInt(8);
            for (int j = 0; j < length; j++) {
                both(2, i, random.nextInt(5), 1 + random.nextInt(3), 0);
                orders[i]++;
            }
        }
        for (int i = 0; i <= 2; i++) {
            both(3, i, random.nextInt(3), 0, 0);
        }
        for (int i = 0; i < 20; i++) {
            both(4, random.nextInt(3), 0, 0, 0);
            both(5, random.nextInt(made), 0, 0, 0);
            both(6, 1 + random.nextInt(5), 0, 0, 0);
            Check.due("all answers", Check.all(bothered), Check.all(plain));
        }
    }

    private void both(int method, int a, int b, int c, int d) {
        bother();
        int want = Model.call(plain, method, a, b, c, d);
        Check.due("method " + method, Model.call(bothered, method, a, b, c, d), want);
    }

    /** Calls drawn at random, of which only those that must be refused are made. */
    private void bother() {
        for (int i = 0; i < 3; i++) {
            int method = random.nextInt(7);
            int a = wrong();
            int b = wrong();
            int c = wrong();
            int d = wrong();
            if (mustRefuse(method, a, b, c, d)) {
                refused++;
                String before = Check.all(bothered);
                int got = Model.call(bothered, method, a, b, c, d);
                Check.due("refused or full", got == WindowPlan.REFUSED || got == WindowPlan.FULL ? 1 : 0, 1);
                Check.due("nothing changes", Check.all(bothered), before);
            }
        }
    }

    private int wrong() {
        return WRONG[random.nextInt(WRONG.length)];
    }

    /** From the answers to questions and the document alone. */
    private boolean mustRefuse(int method, int a, int b, int c, int d) {
        boolean fixed = plain.partition(0) + plain.partition(1) + plain.partition(2) > 0;
        boolean noPartition = a < 0 || a > 2;
        boolean noProcess = a < 0 || a >= plain.count(5);
        switch (method) {
            case 0:
                return fixed || noPartition || b < 1 || b > 30 || plain.count(6) == 8;
            case 1:
                return fixed || noPartition || b < 0 || b > 9 || c < 0 || c > 60 || d < 0 || d > 60 || plain.count(5) == 8;
            case 2:
                return fixed || noProcess || orders[a] == 8 || b < 0 || b > 4 || (b == 0 ? c < 1 || c > 20 : c < 0 || c > 3);
            case 3:
                return noPartition || b < 0 || b > 2;
            case 4:
                return noPartition || plain.partition(a) == WindowPlan.ON;
            case 5:
                return noProcess || plain.state(a, 0) != WindowPlan.RESTING;
            default:
                return a < 1 || a > 60;
        }
    }
}
