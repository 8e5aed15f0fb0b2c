import java.util.List;
import java.util.Random;

/** Runs of drawn calls (always the same ones) on the class and on the model: every answer must be the same. */
public final class ModelTest {
    private static final int RUNS = 250;
    private static final int SHORT_STRANDS = 3000;
    private static final int MOST_TOLD = 20;

    private static final int[] EDGES = {Integer.MIN_VALUE, -301, -2, -1, 0, 1, 2, 3, 5, 6, 20, 21, 59, 60, 61, 99,
        100, 101, 299, 300, 301, 65536, 65537, 100000, 100001, Integer.MAX_VALUE - 299, Integer.MAX_VALUE};

    private final Checks checks;
    private final String name;
    private final Pair pair;
    private final Random random;
    private int reach;
    private int edgesOfHundred;

    private ModelTest(Checks checks, String name, long seed) {
        this.checks = checks;
        this.name = name;
        this.pair = new Pair(checks, name);
        this.random = new Random(seed);
    }

    public static void main(String[] args) {
        Checks checks = new Checks();
        for (int run = 0; run < RUNS && checks.wrongs() < MOST_TOLD; run++) {
            new ModelTest(checks, "run " + run, run).longRun(run);
        }
        for (int run = 0; run < SHORT_STRANDS && checks.wrongs() < MOST_TOLD; run++) {
            new ModelTest(checks, "short strand " + run, 1_000_000L + run).shortStrand();
        }
        checks.end();
    }

    // Runs differ in how long their strands grow and in how often an edge stands for an ordinary number.
    private void longRun(int run) {
        reach = new int[] {12, 40, 120, 300}[run % 4];
        edgesOfHundred = new int[] {1, 5, 30}[run % 3];
        while (pair.callsLeft() > 0) {
            String call = drawnName();
            pair.both(call, drawnArguments(call));
        }
    }

    private void shortStrand() {
        int n = 1 + random.nextInt(9);
        pair.both("cast", n);
        for (int i = random.nextInt(3); i >= 0; i--) {
            int low = 1 + random.nextInt(4);
            pair.both("want", low, low + random.nextInt(3));
        }
        pair.both("trim", random.nextInt(3), random.nextInt(3));
        for (int i = random.nextInt(3); i > 0; i--) {
            int from = random.nextInt(n);
            pair.both("bar", from, from + random.nextInt(2));
        }
        if (random.nextInt(3) == 0) {
            int from = random.nextInt(n);
            pair.both("bad", from, from + 1);
        }
        pair.askPlan();
        bestOfAllCuttings(n);
        pair.both("cut");
        pair.both("trim", 0, 0);
        pair.askPlan();
        bestOfAllCuttings(n);
    }

    // The model's plan is the object's: the calls told so. Here it is held against the document's words.
    private void bestOfAllCuttings(int n) {
        List<Model.Part> best = AllCuttings.best(pair.model(), n);
        checks.same(name + ": the least scrap of all cuttings", AllCuttings.scrapOf(best), pair.model().loss());
        checks.same(name + ": the best of all cuttings", Model.text(best), pair.model().planText());
    }

    // Calls that only ask are drawn often, those that use up a limit seldom.
    private String drawnName() {
        String[] seldom = {"step", "want", "bad", "bar", "trim", "span", "cast"};
        String[] often = {"loss", "part", "part", "part", "cut", "slab", "weight", "count", "torch", "cast"};
        return random.nextInt(4) == 0 ? seldom[random.nextInt(seldom.length)] : often[random.nextInt(often.length)];
    }

    private int[] drawnArguments(String call) {
        int[] a = ordinaryArguments(call);
        for (int i = 0; i < a.length; i++) {
            if (random.nextInt(100) < edgesOfHundred) {
                a[i] = EDGES[random.nextInt(EDGES.length)];
            }
        }
        return a;
    }

    private int[] ordinaryArguments(String call) {
        int low = 1 + random.nextInt(Math.min(55, reach / 2));
        int high = low + random.nextInt(5);
        int from = random.nextInt(reach);
        switch (call) {
            case "step":
                return new int[] {1 + random.nextInt(65536), 1 + random.nextInt(100000)};
            case "cast":
                return new int[] {random.nextInt(1 + reach / 3)};
            case "want":
                return new int[] {low, high};
            case "span":
                return new int[] {random.nextInt(6), low, high};
            case "trim":
                return new int[] {random.nextInt(1 + reach / 4), random.nextInt(1 + reach / 6)};
            case "bad":
            case "bar":
                return new int[] {from, from + random.nextInt(4)};
            case "count":
                return new int[] {random.nextInt(7) - 1};
            case "part":
            case "slab":
                return new int[] {random.nextInt(20), random.nextInt(3)};
            case "weight":
                return new int[] {random.nextInt(20)};
            default:
                return new int[0];
        }
    }
}
