import java.util.Random;

/** Many runs of calls, drawn with fixed seeds, whose answers must be those of the second reading in Model. */
final class ModelTest {
    private final Random random;
    private final WindowPlan plan = new WindowPlan();
    private final Model model = new Model();
    private final StringBuilder told = new StringBuilder();
    private int calls;

    private ModelTest(long seed) {
        random = new Random(seed);
    }

    public static void main(String[] args) {
        for (long seed = 0; seed < 4000 && Check.allRight(); seed++) {
            new ModelTest(seed).oneRun();
        }
        Check.end();
    }

    private void oneRun() {
        build();
        for (int i = 0; i < 25; i++) {
            drive();
        }
        // with the questions at the end it stays under the 512 calls that an object is promised for
        while (calls < 350 && Check.allRight()) {
            any();
        }
        lookAtAll();
    }

    private void call(int method, int a, int b, int c, int d) {
        if (!Check.allRight()) {
            return;
        }
        calls++;
        String text = Model.NAMES[method] + "(" + a + ", " + b + ", " + c + ", " + d + ")";
        told.append("  ").append(text).append('\n');
        Check.due("call " + calls + " " + text, Model.call(plan, method, a, b, c, d), model.call(method, a, b, c, d));
        if (!Check.allRight()) {
            System.out.println(told);
        }
    }

    private void build() {
        int windows = random.nextInt(6);
        for (int i = 0; i < windows; i++) {
            call(0, random.nextInt(3), 1 + random.nextInt(random.nextBoolean() ? 4 : 30), 0, 0);
        }
        int processes = 1 + random.nextInt(8);
        boolean fewPriorities = random.nextBoolean();
        for (int i = 0; i < processes; i++) {
            int period = random.nextBoolean() ? 0 : random.nextInt(random.nextBoolean() ? 8 : 61);
            int limit = random.nextBoolean() ? 0 : random.nextInt(random.nextBoolean() ? 8 : 61);
            call(1, random.nextInt(3), random.nextInt(fewPriorities ? 2 : 10), period, limit);
            int orders = random.nextInt(9);
            for (int j = 0; j < orders; j++) {
                int order = random.nextInt(5);
                call(2, i, order, order == 0 ? 1 + random.nextInt(random.nextInt(6) == 0 ? 20 : 3) : random.nextInt(2), 0);
            }
        }
        for (int i = 0; i <= 2; i++) {
            call(3, i, random.nextInt(3), 0, 0);
        }
    }

    private void drive() {
        switch (random.nextInt(8)) {
            case 0:
                call(4, random.nextInt(3), 0, 0, 0);
                break;
            case 1:
            case 2:
            case 3:
                call(5, random.nextInt(8), 0, 0, 0);
                break;
            case 4:
                call(3, random.nextInt(3), random.nextInt(3), 0, 0);
                break;
            default:
                call(6, 1 + random.nextInt(random.nextInt(4) == 0 ? 60 : 4), 0, 0, 0);
                break;
        }
        for (int i = 0; i < 4; i++) {
            call(8, random.nextInt(8), random.nextInt(10), 0, 0);
        }
        call(11, random.nextInt(7), 0, 0, 0);
    }

    private void any() {
        call(random.nextInt(Model.NAMES.length), number(), number(), number(), number());
    }

    private int number() {
        return random.nextInt(3) > 0 ? random.nextInt(5) : random.nextInt(70) - 3;
    }

    private void lookAtAll() {
        for (int a = -1; a <= 8; a++) {
            for (int method = 7; method < Model.NAMES.length; method++) {
                for (int b = method == 8 ? -1 : 10; b <= 10; b++) {
                    call(method, a, b, 0, 0);
                }
            }
        }
    }
}
