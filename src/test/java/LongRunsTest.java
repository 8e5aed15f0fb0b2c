import java.util.ArrayList;
import java.util.List;
import java.util.Random;
import java.util.function.LongSupplier;

/**
 * Runs of 512 calls on one object: what is told between cuts changes the plan from the torch on, and the slabs
 * that are cut already stay as they are.
 */
public final class LongRunsTest {
    private static final Checks CHECKS = new Checks();

    public static void main(String[] args) {
        CHECKS.test("told between cuts", () -> new ByHand().run());
        int[] changes = new int[Drawn.TELLINGS.length];
        for (int i = 0; i < Drawn.RUNS; i++) {
            int seed = i;
            CHECKS.test("told between drawn cuts", () -> new Drawn(seed, changes).run());
        }
        for (int i = 0; i < changes.length; i++) {
            int missing = Math.max(0, Drawn.LEAST_CHANGES - changes[i]);
            CHECKS.same(Drawn.TELLINGS[i] + ", its missing changes of the plan", 0, missing);
        }
        CHECKS.end();
    }

    /** Rounds of the same calls, each on the 15 steps cast last; every answer is known from the round's first place. */
    private static final class ByHand {
        private static final int ROUNDS = 17;
        private static final int ROUNDS_WITH_WANT = 5;
        private static final int[] FIRST_WEIGHTS = {300, 400, 400, 300, 100, 300, 400, 400};

        private final CutLengths x = new CutLengths();
        private final List<int[]> slabs = new ArrayList<>();
        private int calls = 0;

        void run() {
            due("want", 0, () -> x.want(3, 3));
            for (int round = 0; round < ROUNDS; round++) {
                round(round, 15 * round);
            }
            allSlabsAreAsTheyWere();
            for (int wanted = -1; wanted <= ROUNDS_WITH_WANT; wanted++) {
                int asked = wanted;
                due("count " + wanted, wanted <= 0 ? 2 * ROUNDS : 1, () -> x.count(asked));
            }
            due("torch", 15 * ROUNDS, x::torch);
            due("loss", 0, x::loss);
            CHECKS.same("calls", Pair.MOST_CALLS, calls);
        }

        // Bad parts and trims are told so that they cover what is cut already, too.
        private void round(int round, int first) {
            due("no part at the end", -2, () -> x.part(0, 0));
            due("cast", first + 15, () -> x.cast(15));
            cut(0, first, 3);
            due("bad", round + 1, () -> x.bad(first, first + 7));
            due("scrap behind bad", 4, () -> x.part(0, 2));
            cut(-1, first + 3, 4);
            due("bar", round + 1, () -> x.bar(first + 10, first + 10));
            due("scrap behind bar", 1, () -> x.part(0, 2));
            told("span", () -> x.span(0, 4, 4));
            due("a piece behind span", 4, () -> x.part(0, 2));
            cut(0, first + 7, 4);
            told("trim", () -> x.trim(first + 11, 1));
            if (round < ROUNDS_WITH_WANT) {
                wantedBetweenCuts(round + 1, first + 11);
            } else {
                cut(-1, first + 11, 4);
            }
            told("trim", () -> x.trim(first + 15, 0));
            told("span", () -> x.span(0, 3, 3));
        }

        // Three of the four steps ahead are not trimmed. Later rounds are too short for what the length becomes then.
        private void wantedBetweenCuts(int wanted, int torch) {
            due("want", wanted, () -> x.want(3, 3));
            due("a piece behind want", wanted, () -> x.part(0, 0));
            cut(wanted, torch, 3);
            cut(-1, torch + 3, 1);
            told("span", () -> x.span(wanted, 60, 60));
        }

        private void cut(int wanted, int begin, int steps) {
            due("cut", slabs.size(), x::cut);
            slabs.add(new int[] {wanted, begin, steps});
        }

        private void allSlabsAreAsTheyWere() {
            for (int i = 0; i < slabs.size(); i++) {
                int slab = i;
                for (int j = 0; j < 3; j++) {
                    int what = j;
                    due("slab " + slab + ", " + what, slabs.get(slab)[what], () -> x.slab(slab, what));
                }
            }
            for (int i = 0; i < FIRST_WEIGHTS.length; i++) {
                int slab = i;
                due("weight " + slab, FIRST_WEIGHTS[slab], () -> x.weight(slab));
            }
        }

        private void told(String call, Runnable tell) {
            calls++;
            CHECKS.accepted("call " + calls + ", " + call, tell);
        }

        private void due(String call, long due, LongSupplier answer) {
            calls++;
            CHECKS.due("call " + calls + ", " + call, due, answer);
        }
    }

    /** Drawn tellings between cuts, against the model. */
    private static final class Drawn {
        static final int RUNS = 120;
        static final int LEAST_CHANGES = 30;
        private static final String[] TELLINGS = {"cast", "want", "span", "trim", "bad", "bar"};
        private static final int LEAST_AHEAD = 12;
        private static final int MOST_CALLS_A_ROUND = 80;

        private final Random random;
        private final Pair pair;
        private final int[] changes;
        private int n = 0;
        private int torch = 0;
        private int slabs = 0;

        /** Counted in changes: how often each telling changed a plan behind a cut. */
        Drawn(int seed, int[] changes) {
            this.random = new Random(seed);
            this.pair = new Pair(CHECKS, "seed " + seed);
            this.changes = changes;
        }

        void run() {
            pair.both("step", 1 + random.nextInt(65536), 1 + random.nextInt(100000));
            pair.both("want", 4, 5);
            n = pair.both("cast", 20).intValue();
            cut();
            for (int round = 1; pair.callsLeft() > MOST_CALLS_A_ROUND + 4 * slabs; round++) {
                if (n - torch < LEAST_AHEAD) {
                    tell(0);
                }
                tell(round % TELLINGS.length);
                cut();
            }
            for (int asked = 0; pair.callsLeft() > 0; asked++) {
                askSlab(asked / 4 % slabs, asked % 4);
            }
        }

        private void tell(int telling) {
            String before = pair.model().planText();
            Long answer = pair.both(TELLINGS[telling], drawnArguments(TELLINGS[telling]));
            if (TELLINGS[telling].equals("cast") && answer != null) {
                n = answer.intValue();
            }
            if (before.equals(pair.model().planText())) {
                pair.both("loss");
            } else {
                changes[telling]++;
                pair.askPlan();
            }
        }

        private int[] drawnArguments(String telling) {
            int low = 3 + random.nextInt(6);
            int high = low + random.nextInt(3);
            int from = Math.min(torch + 2 + random.nextInt(6), 298);
            switch (telling) {
                case "cast":
                    return new int[] {4 + random.nextInt(LEAST_AHEAD)};
                case "want":
                    return new int[] {low, high};
                case "span":
                    return new int[] {random.nextInt(pair.model().wantedLengths()), low, high};
                case "trim":
                    return new int[] {Math.min(torch + random.nextInt(4), 300), random.nextInt(4)};
                default:
                    return new int[] {from, from + random.nextInt(3)};
            }
        }

        private void cut() {
            if (pair.both("cut") != null) {
                slabs++;
                torch = pair.both("torch").intValue();
            }
        }

        private void askSlab(int slab, int what) {
            if (what < 3) {
                pair.both("slab", slab, what);
            } else {
                pair.both("weight", slab);
            }
        }
    }
}
