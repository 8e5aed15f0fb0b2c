import java.util.Random;
import java.util.function.LongSupplier;

/** Runs of drawn calls (always the same ones) on the class and on the model: every answer must be the same. */
public final class ModelTest {
    private static final int RUNS = 250;
    private static final int CALLS = 512;
    private static final int SHORT_STRANDS = 3000;
    private static final int MOST_TOLD = 20;

    private static final int[] EDGES = {Integer.MIN_VALUE, -301, -2, -1, 0, 1, 2, 3, 5, 6, 20, 21, 59, 60, 61, 99,
        100, 101, 299, 300, 301, 65536, 65537, 100000, 100001, Integer.MAX_VALUE - 299, Integer.MAX_VALUE};

    private final Checks checks;
    private final Random random;
    private final CutLengths real = new CutLengths();
    private final Model model = new Model();
    private int reach;
    private int edgesOfHundred;

    private ModelTest(Checks checks, long seed) {
        this.checks = checks;
        this.random = new Random(seed);
    }

    public static void main(String[] args) {
        Checks checks = new Checks();
        for (int run = 0; run < RUNS && checks.wrongs() < MOST_TOLD; run++) {
            new ModelTest(checks, run).longRun(run);
        }
        for (int run = 0; run < SHORT_STRANDS && checks.wrongs() < MOST_TOLD; run++) {
            new ModelTest(checks, 1_000_000L + run).shortStrand(run);
        }
        checks.end();
    }

    // Runs differ in how long their strands grow and in how often an edge stands for an ordinary number.
    private void longRun(int run) {
        reach = new int[] {12, 40, 120, 300}[run % 4];
        edgesOfHundred = new int[] {1, 5, 30}[run % 3];
        for (int call = 0; call < CALLS; call++) {
            drawnCall("run " + run + ", call " + call + ": ");
        }
    }

    private void shortStrand(int run) {
        int n = 1 + random.nextInt(9);
        both("cast", n, 0);
        for (int i = random.nextInt(3); i >= 0; i--) {
            int low = 1 + random.nextInt(4);
            both("want", low, low + random.nextInt(3));
        }
        both("trim", random.nextInt(3), random.nextInt(3));
        for (int i = random.nextInt(3); i > 0; i--) {
            int from = random.nextInt(n);
            both("bar", from, from + random.nextInt(2));
        }
        if (random.nextInt(3) == 0) {
            int from = random.nextInt(n);
            both("bad", from, from + 1);
        }
        checks.due("short strand " + run + ": loss()", model.leastOfAllCuttings(0), real::loss);
    }

    private void both(String call, int a, int b) {
        LongSupplier onModel = () -> onModel(call, a, b, 0);
        LongSupplier onReal = () -> onReal(call, a, b, 0);
        compare(call + "(" + a + ", " + b + ")", onModel, onReal);
    }

    private void drawnCall(String where) {
        String call = drawnName();
        int[] a = drawnArguments(call);
        String text = where + call + "(" + a[0] + ", " + a[1] + ", " + a[2] + ")";
        compare(text, () -> onModel(call, a[0], a[1], a[2]), () -> onReal(call, a[0], a[1], a[2]));
    }

    // Calls that only ask are drawn often, those that use up a limit seldom.
    private String drawnName() {
        String[] seldom = {"step", "want", "bad", "bar", "trim", "span", "cast"};
        String[] often = {"loss", "part", "part", "part", "cut", "slab", "weight", "count", "torch", "cast"};
        return random.nextInt(4) == 0 ? seldom[random.nextInt(seldom.length)] : often[random.nextInt(often.length)];
    }

    private int[] drawnArguments(String call) {
        int[] a = ordinaryArguments(call);
        for (int i = 0; i < a.length; i++) {
            if (random.nextInt(100) < edgesOfHundred) {
                a[i] = EDGES[random.nextInt(EDGES.length)];
            }
        }
        return a;
    }

    private int[] ordinaryArguments(String call) {
        int low = 1 + random.nextInt(Math.min(55, reach / 2));
        int high = low + random.nextInt(5);
        int from = random.nextInt(reach);
        switch (call) {
            case "step":
                return new int[] {1 + random.nextInt(65536), 1 + random.nextInt(100000), 0};
            case "cast":
                return new int[] {random.nextInt(1 + reach / 3), 0, 0};
            case "want":
                return new int[] {low, high, 0};
            case "span":
                return new int[] {random.nextInt(6), low, high};
            case "trim":
                return new int[] {random.nextInt(1 + reach / 4), random.nextInt(1 + reach / 6), 0};
            case "bad":
            case "bar":
                return new int[] {from, from + random.nextInt(4), 0};
            case "count":
                return new int[] {random.nextInt(7) - 1, 0, 0};
            default:
                return new int[] {random.nextInt(20), random.nextInt(3), 0};
        }
    }

    private void compare(String call, LongSupplier onModel, LongSupplier onReal) {
        long due;
        try {
            due = onModel.getAsLong();
        } catch (RuntimeException e) {
            checks.refused(call, e.getClass(), onReal::getAsLong);
            return;
        }
        checks.due(call, due, onReal);
    }

    private long onModel(String call, int a, int b, int c) {
        switch (call) {
            case "step": return model.step(a, b);
            case "cast": return model.cast(a);
            case "want": return model.want(a, b);
            case "span": return model.span(a, b, c);
            case "trim": return model.trim(a, b);
            case "bad": return model.bad(a, b);
            case "bar": return model.bar(a, b);
            case "loss": return model.loss();
            case "part": return model.part(a, b);
            case "cut": return model.cut();
            case "slab": return model.slab(a, b);
            case "weight": return model.weight(a);
            case "count": return model.count(a);
            default: return model.torch();
        }
    }

    private long onReal(String call, int a, int b, int c) {
        switch (call) {
            case "step":
                real.step(a, b);
                return 0;
            case "span":
                real.span(a, b, c);
                return 0;
            case "trim":
                real.trim(a, b);
                return 0;
            case "cast": return real.cast(a);
            case "want": return real.want(a, b);
            case "bad": return real.bad(a, b);
            case "bar": return real.bar(a, b);
            case "loss": return real.loss();
            case "part": return real.part(a, b);
            case "cut": return real.cut();
            case "slab": return real.slab(a, b);
            case "weight": return real.weight(a);
            case "count": return real.count(a);
            default: return real.torch();
        }
    }
}
