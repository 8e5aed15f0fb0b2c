/**
 * Cutting a cast strand into pieces of wanted lengths with the least scrap.
 * README.md tells how it is used.
 */
public final class CutLengths {
    private static final int MOST_STEPS = 300;
    private static final int PLACES = MOST_STEPS + 1;
    private static final int MOST_WANTED = 6;
    private static final int LONGEST_PIECE = 60;
    private static final int MOST_BAD_PARTS = 20;
    private static final int MOST_BARS = 20;
    private static final int MOST_SLABS = 100;
    private static final int MOST_MILLIMETRES = 65536;
    private static final int MOST_KILOS = 100000;

    private static final int FIRST_MILLIMETRES = 100;
    private static final int FIRST_KILOS = 1000;
    private static final int MILLIMETRES_A_METRE = 1000;

    private static final int SCRAP = -1;
    private static final int NO_PART = -2;

    private static final int WHAT_WANTED = 0;
    private static final int WHAT_BEGIN = 1;
    private static final int WHAT_STEPS = 2;

    private final Strand strand = new Strand();
    private final WantedLengths lengths = new WantedLengths();
    private final Plan plan = new Plan();
    private final Slabs slabs = new Slabs();
    private int millimetres = FIRST_MILLIMETRES;
    private int kilos = FIRST_KILOS;
    private boolean planIsOld = true;

    public CutLengths() {
    }

    public void step(int millimetres, int kilos) throws IllegalStateException, IllegalArgumentException {
        if (slabs.size > 0) {
            throw new IllegalStateException("something was cut");
        }
        if (isOutside(millimetres, 1, MOST_MILLIMETRES) || isOutside(kilos, 1, MOST_KILOS)) {
            throw new IllegalArgumentException("no such step or kilos");
        }
        this.millimetres = millimetres;
        this.kilos = kilos;
    }

    public int cast(int steps) throws IllegalArgumentException, UnsupportedOperationException {
        if (steps < 0) {
            throw new IllegalArgumentException("steps below 0");
        }
        if (steps > MOST_STEPS - strand.end) {
            throw new UnsupportedOperationException("the strand would be too long");
        }
        strand.end += steps;
        planIsOld = true;
        return strand.end;
    }

    public int want(int low, int high) throws IllegalStateException, IllegalArgumentException {
        if (lengths.size >= MOST_WANTED) {
            throw new IllegalStateException("no more wanted lengths");
        }
        if (!isSpan(low, high)) {
            throw new IllegalArgumentException("no such span");
        }
        int wanted = lengths.size;
        lengths.size++;
        tellSpan(wanted, low, high);
        return wanted;
    }

    public void span(int wanted, int low, int high) throws IndexOutOfBoundsException, IllegalArgumentException {
        if (wanted < 0 || wanted >= lengths.size) {
            throw new IndexOutOfBoundsException("no such wanted length");
        }
        if (!isSpan(low, high)) {
            throw new IllegalArgumentException("no such span");
        }
        tellSpan(wanted, low, high);
    }

    public void trim(int front, int back) throws IllegalArgumentException {
        if (isOutside(front, 0, MOST_STEPS) || isOutside(back, 0, MOST_STEPS)) {
            throw new IllegalArgumentException("no such trims");
        }
        strand.front = front;
        strand.back = back;
        planIsOld = true;
    }

    public int bad(int from, int to) throws IllegalStateException, IllegalArgumentException {
        if (strand.badParts >= MOST_BAD_PARTS) {
            throw new IllegalStateException("no more bad parts");
        }
        if (!isStretch(from, to)) {
            throw new IllegalArgumentException("no such steps");
        }
        strand.markBad(from, to);
        planIsOld = true;
        return strand.badParts;
    }

    public int bar(int from, int to) throws IllegalStateException, IllegalArgumentException {
        if (strand.bars >= MOST_BARS) {
            throw new IllegalStateException("no more bars");
        }
        if (!isStretch(from, to)) {
            throw new IllegalArgumentException("no such places");
        }
        strand.markBarred(from, to);
        planIsOld = true;
        return strand.bars;
    }

    public int loss() {
        renewPlan();
        return plan.scrapAhead[strand.torch];
    }

    public int part(int i, int what) throws IndexOutOfBoundsException {
        if (i < 0 || !isWhat(what)) {
            throw new IndexOutOfBoundsException("no such part or what");
        }
        renewPlan();
        int begin = plan.beginOfPart(i, strand);
        if (begin >= strand.end) {
            return NO_PART;
        }
        return pick(what, plan.wanted[begin], begin, plan.steps[begin]);
    }

    public int cut() throws IllegalStateException, UnsupportedOperationException {
        if (strand.torch >= strand.end) {
            throw new IllegalStateException("nothing is ahead of the torch");
        }
        if (slabs.size >= MOST_SLABS) {
            throw new UnsupportedOperationException("no more slabs");
        }
        renewPlan();
        int begin = strand.torch;
        int slab = slabs.size;
        slabs.append(plan.wanted[begin], begin, plan.steps[begin]);
        // The plan does not grow old by this: the torch stops where the plan's next part
        // begins, and that place is barred only if it is the end, where no piece begins.
        strand.torch = begin + plan.steps[begin];
        return slab;
    }

    public int slab(int slab, int what) throws IndexOutOfBoundsException {
        if (!isSlab(slab) || !isWhat(what)) {
            throw new IndexOutOfBoundsException("no such slab or what");
        }
        return pick(what, slabs.wanted[slab], slabs.begin[slab], slabs.steps[slab]);
    }

    public long weight(int slab) throws IndexOutOfBoundsException {
        if (!isSlab(slab)) {
            throw new IndexOutOfBoundsException("no such slab");
        }
        // Step and kilos are those at the cut: step refuses new ones once something was cut.
        long slabMillimetres = (long) slabs.steps[slab] * millimetres;
        return slabMillimetres * kilos / MILLIMETRES_A_METRE;
    }

    public int count(int wanted) throws IndexOutOfBoundsException {
        if (wanted < SCRAP || wanted >= lengths.size) {
            throw new IndexOutOfBoundsException("no such wanted length");
        }
        return slabs.howManyOf(wanted);
    }

    public int torch() {
        return strand.torch;
    }

    private void tellSpan(int wanted, int low, int high) {
        lengths.low[wanted] = low;
        lengths.high[wanted] = high;
        planIsOld = true;
    }

    private void renewPlan() {
        if (planIsOld) {
            plan.make(strand, lengths);
            planIsOld = false;
        }
    }

    private boolean isSlab(int slab) {
        return slab >= 0 && slab < slabs.size;
    }

    private static boolean isOutside(int value, int least, int most) {
        return value < least || value > most;
    }

    private static boolean isSpan(int low, int high) {
        return low >= 1 && low <= high && high <= LONGEST_PIECE;
    }

    private static boolean isStretch(int from, int to) {
        return from >= 0 && from <= to && to <= MOST_STEPS;
    }

    private static boolean isWhat(int what) {
        return what >= WHAT_WANTED && what <= WHAT_STEPS;
    }

    private static int pick(int what, int wanted, int begin, int steps) {
        if (what == WHAT_WANTED) {
            return wanted;
        }
        return what == WHAT_BEGIN ? begin : steps;
    }

    /** The strand as it was cast and told, with the torch on it. */
    private static final class Strand {
        int end = 0;
        int torch = 0;
        int front = 0;
        int back = 0;
        int badParts = 0;
        int bars = 0;
        final boolean[] badSteps = new boolean[MOST_STEPS];
        final boolean[] barredPlaces = new boolean[PLACES];

        void markBad(int from, int to) {
            for (int step = from; step < to; step++) {
                badSteps[step] = true;
            }
            badParts++;
        }

        void markBarred(int from, int to) {
            for (int place = from; place <= to; place++) {
                barredPlaces[place] = true;
            }
            bars++;
        }

        boolean isSound(int step) {
            return step >= front && step < end - back && !badSteps[step];
        }

        boolean pieceMayBegin(int place) {
            return place == torch || !barredPlaces[place];
        }

        boolean pieceMayEnd(int place) {
            return place == end || !barredPlaces[place];
        }
    }

    /** The spans of the wanted lengths. */
    private static final class WantedLengths {
        int size = 0;
        final int[] low = new int[MOST_WANTED];
        final int[] high = new int[MOST_WANTED];
    }

    /** For each place from the torch on: the least scrap ahead, and the part that the plan has there. */
    private static final class Plan {
        final int[] scrapAhead = new int[PLACES];
        final int[] wanted = new int[PLACES];
        final int[] steps = new int[PLACES];

        void make(Strand strand, WantedLengths lengths) {
            scrapAhead[strand.end] = 0;
            wanted[strand.end] = NO_PART;
            steps[strand.end] = 0;
            int soundSteps = 0;
            int sureScrap = 0;
            for (int place = strand.end - 1; place >= strand.torch; place--) {
                if (strand.isSound(place)) {
                    soundSteps++;
                } else {
                    soundSteps = 0;
                    sureScrap++;
                }
                takeScrap(place);
                if (strand.pieceMayBegin(place)) {
                    takeBestPiece(place, soundSteps, sureScrap, strand, lengths);
                }
            }
        }

        int beginOfPart(int i, Strand strand) {
            // A part has a step at least, so that so many parts always reach the end.
            int partsAhead = Math.min(i, MOST_STEPS);
            int place = strand.torch;
            for (int part = 0; part < partsAhead && place < strand.end; part++) {
                place += steps[place];
            }
            return place;
        }

        private void takeScrap(int place) {
            boolean scrapFollows = wanted[place + 1] == SCRAP;
            scrapAhead[place] = scrapAhead[place + 1] + 1;
            wanted[place] = SCRAP;
            steps[place] = scrapFollows ? steps[place + 1] + 1 : 1;
        }

        // Tried in the order in which the document prefers them, so that only a better one replaces one.
        private void takeBestPiece(int place, int soundSteps, int sureScrap, Strand strand, WantedLengths lengths) {
            for (int length = 0; length < lengths.size; length++) {
                int longest = Math.min(lengths.high[length], soundSteps);
                for (int tried = longest; tried >= lengths.low[length]; tried--) {
                    int next = place + tried;
                    if (strand.pieceMayEnd(next) && isBetter(place, next)) {
                        takePiece(place, length, tried);
                    }
                    // Bad and trimmed steps are scrap in every plan: nothing tried later can be better.
                    if (wanted[place] != SCRAP && scrapAhead[place] == sureScrap) {
                        return;
                    }
                }
            }
        }

        private void takePiece(int place, int length, int pieceSteps) {
            scrapAhead[place] = scrapAhead[place + pieceSteps];
            wanted[place] = length;
            steps[place] = pieceSteps;
        }

        private boolean isBetter(int place, int next) {
            boolean less = scrapAhead[next] < scrapAhead[place];
            boolean pieceForScrap = scrapAhead[next] == scrapAhead[place] && wanted[place] == SCRAP;
            return less || pieceForScrap;
        }
    }

    /** What was cut, in the order of the cuts. */
    private static final class Slabs {
        int size = 0;
        final int[] wanted = new int[MOST_SLABS];
        final int[] begin = new int[MOST_SLABS];
        final int[] steps = new int[MOST_SLABS];

        void append(int slabWanted, int slabBegin, int slabSteps) {
            wanted[size] = slabWanted;
            begin[size] = slabBegin;
            steps[size] = slabSteps;
            size++;
        }

        int howManyOf(int length) {
            int found = 0;
            for (int slab = 0; slab < size; slab++) {
                if (wanted[slab] == length) {
                    found++;
                }
            }
            return found;
        }
    }
}
