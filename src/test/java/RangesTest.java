/** Each range and limit of the document: the last that is allowed, the first that is not, and the ends of int. */
public final class RangesTest {
    private static final int MIN = Integer.MIN_VALUE;
    private static final int MAX = Integer.MAX_VALUE;
    private static final int[] FAR = {MIN, MIN + 1, MAX - 1, MAX};

    private static final Checks CHECKS = new Checks();

    public static void main(String[] args) {
        step();
        cast();
        want();
        span();
        trim();
        stretches();
        plan();
        slabs();
        CHECKS.end();
    }

    private static void step() {
        CHECKS.test("2 the least millimetres", RangesTest::leastMillimetres);
        CHECKS.test("2 the most millimetres", RangesTest::mostMillimetres);
        CHECKS.test("2 millimetres at the ends of int", RangesTest::farMillimetres);
        CHECKS.test("2 the least kilos", RangesTest::leastKilos);
        CHECKS.test("2 the most kilos", RangesTest::mostKilos);
        CHECKS.test("2 kilos at the ends of int", RangesTest::farKilos);
        CHECKS.test("2 the step and the kilos at first", RangesTest::firstStep);
    }

    private static void leastMillimetres() {
        CutLengths x = new CutLengths();
        CHECKS.accepted("step(1, 1000)", () -> x.step(1, 1000));
        CHECKS.refused("step(0, 1000)", Checks.RANGE, () -> x.step(0, 1000));
        CHECKS.refused("step(-1, 1000)", Checks.RANGE, () -> x.step(-1, 1000));
        CHECKS.due("a step's weight", 1, () -> weightOfOneStep(x));
    }

    private static void mostMillimetres() {
        CutLengths x = new CutLengths();
        CHECKS.accepted("step(65536, 1000)", () -> x.step(65536, 1000));
        CHECKS.refused("step(65537, 1000)", Checks.RANGE, () -> x.step(65537, 1000));
        CHECKS.due("a step's weight", 65536, () -> weightOfOneStep(x));
    }

    private static void farMillimetres() {
        CutLengths x = new CutLengths();
        for (int far : FAR) {
            CHECKS.refused("step(" + far + ", 1000)", Checks.RANGE, () -> x.step(far, 1000));
        }
        CHECKS.due("a step's weight", 100, () -> weightOfOneStep(x));
    }

    private static void leastKilos() {
        CutLengths x = new CutLengths();
        CHECKS.accepted("step(3000, 1)", () -> x.step(3000, 1));
        CHECKS.refused("step(3000, 0)", Checks.RANGE, () -> x.step(3000, 0));
        CHECKS.refused("step(3000, -1)", Checks.RANGE, () -> x.step(3000, -1));
        CHECKS.due("a step's weight", 3, () -> weightOfOneStep(x));
    }

    private static void mostKilos() {
        CutLengths x = new CutLengths();
        CHECKS.accepted("step(3000, 100000)", () -> x.step(3000, 100000));
        CHECKS.refused("step(3000, 100001)", Checks.RANGE, () -> x.step(3000, 100001));
        CHECKS.due("a step's weight", 300000, () -> weightOfOneStep(x));
    }

    private static void farKilos() {
        CutLengths x = new CutLengths();
        for (int far : FAR) {
            CHECKS.refused("step(100, " + far + ")", Checks.RANGE, () -> x.step(100, far));
            CHECKS.refused("step(" + far + ", " + far + ")", Checks.RANGE, () -> x.step(far, far));
        }
        CHECKS.due("a step's weight", 100, () -> weightOfOneStep(x));
    }

    // One step alone would hide a kilo more or less, as its weight is rounded.
    private static void firstStep() {
        CutLengths x = Strands.of(300);
        x.cut();
        CHECKS.due("the weight of 300 steps", 30000, () -> x.weight(0));
    }

    private static long weightOfOneStep(CutLengths x) {
        x.cast(1);
        return x.weight(x.cut());
    }

    private static void cast() {
        CHECKS.test("3 the least steps", RangesTest::castLeast);
        CHECKS.test("3 the most steps at once", RangesTest::castMostAtOnce);
        CHECKS.test("3 the most steps bit by bit", RangesTest::castMostBitByBit);
        CHECKS.test("3 steps at the ends of int", RangesTest::castFar);
    }

    private static void castLeast() {
        CutLengths x = new CutLengths();
        CHECKS.due("cast(0) on 0", 0, () -> x.cast(0));
        CHECKS.refused("cast(-1) on 0", Checks.RANGE, () -> x.cast(-1));
        CHECKS.due("cast(1) on 0", 1, () -> x.cast(1));
        CHECKS.due("cast(0) on 1", 1, () -> x.cast(0));
        CHECKS.refused("cast(-1) on 1", Checks.RANGE, () -> x.cast(-1));
        CHECKS.due("n", 1, () -> x.cast(0));
    }

    private static void castMostAtOnce() {
        CutLengths x = new CutLengths();
        CHECKS.refused("cast(301) on 0", Checks.MEANING, () -> x.cast(301));
        CHECKS.due("cast(300) on 0", 300, () -> x.cast(300));
        CHECKS.refused("cast(1) on 300", Checks.MEANING, () -> x.cast(1));
        CHECKS.refused("cast(300) on 300", Checks.MEANING, () -> x.cast(300));
        CHECKS.due("cast(0) on 300", 300, () -> x.cast(0));
    }

    private static void castMostBitByBit() {
        CutLengths x = new CutLengths();
        x.cast(298);
        CHECKS.refused("cast(3) on 298", Checks.MEANING, () -> x.cast(3));
        CHECKS.due("cast(1) on 298", 299, () -> x.cast(1));
        CHECKS.refused("cast(2) on 299", Checks.MEANING, () -> x.cast(2));
        CHECKS.due("cast(1) on 299", 300, () -> x.cast(1));
    }

    // n + steps wraps round to below 0 with the greatest ones.
    private static void castFar() {
        for (int n : new int[] {0, 1, 2, 299, 300}) {
            CutLengths x = Strands.of(n);
            CHECKS.refused("cast(MIN) on " + n, Checks.RANGE, () -> x.cast(MIN));
            CHECKS.refused("cast(MIN + 1) on " + n, Checks.RANGE, () -> x.cast(MIN + 1));
            CHECKS.refused("cast(MAX) on " + n, Checks.MEANING, () -> x.cast(MAX));
            CHECKS.refused("cast(MAX - 1) on " + n, Checks.MEANING, () -> x.cast(MAX - 1));
            CHECKS.refused("cast(MAX - 299) on " + n, Checks.MEANING, () -> x.cast(MAX - 299));
            CHECKS.due("n", n, () -> x.cast(0));
        }
    }

    /** want and span have the same ranges for the same two numbers. */
    private interface Span {
        void tell(CutLengths x, int low, int high);
    }

    private static void want() {
        spans("4 want", CutLengths::want);
        CHECKS.test("4 the number of wanted lengths", RangesTest::numberOfWanted);
    }

    private static void span() {
        spans("5 span", (x, low, high) -> x.span(0, low, high), 59, 59);
        CHECKS.test("5 span, which wanted length", RangesTest::spanOfWhich);
    }

    // 'first' is the span that is there before the call, if one is.
    private static void spans(String name, Span span, int... first) {
        CHECKS.test(name + ", the least low", () -> leastLow(span, first));
        CHECKS.test(name + ", the most low", () -> mostLow(span, first));
        CHECKS.test(name + ", the least high", () -> leastHigh(span, first));
        CHECKS.test(name + ", the most high", () -> mostHigh(span, first));
        CHECKS.test(name + ", low at high", () -> lowAtHigh(span, first));
        CHECKS.test(name + ", the ends of int", () -> farSpans(span, first));
    }

    private static void leastLow(Span span, int... first) {
        CutLengths x = Strands.of(1, first);
        spanRefused(x, span, 0, 1);
        spanRefused(x, span, 0, 0);
        spanRefused(x, span, -1, 1);
        CHECKS.due("loss before", 1, x::loss);
        CHECKS.accepted("(1, 1)", () -> span.tell(x, 1, 1));
        CHECKS.parts("(1, 1)", x, 0, 0, 1);
    }

    private static void mostLow(Span span, int... first) {
        CutLengths x = Strands.of(60, first);
        spanRefused(x, span, 61, 61);
        spanRefused(x, span, 61, 60);
        spanRefused(x, span, 61, 62);
        CHECKS.accepted("(60, 60)", () -> span.tell(x, 60, 60));
        CHECKS.parts("(60, 60)", x, 0, 0, 60);
    }

    private static void leastHigh(Span span, int... first) {
        CutLengths x = Strands.of(2, first);
        spanRefused(x, span, 1, 0);
        spanRefused(x, span, 1, -1);
        CHECKS.accepted("(1, 1)", () -> span.tell(x, 1, 1));
        CHECKS.parts("(1, 1)", x, 0, 0, 1, 0, 1, 1);
    }

    private static void mostHigh(Span span, int... first) {
        CutLengths x = Strands.of(61, first);
        spanRefused(x, span, 60, 61);
        spanRefused(x, span, 1, 61);
        spanRefused(x, span, 1, 62);
        CHECKS.accepted("(1, 60)", () -> span.tell(x, 1, 60));
        CHECKS.parts("(1, 60)", x, 0, 0, 60, 0, 60, 1);
    }

    private static void lowAtHigh(Span span, int... first) {
        CutLengths x = Strands.of(31, first);
        spanRefused(x, span, 31, 30);
        spanRefused(x, span, 60, 1);
        spanRefused(x, span, 2, 1);
        spanRefused(x, span, 60, 59);
        CHECKS.accepted("(31, 31)", () -> span.tell(x, 31, 31));
        CHECKS.parts("(31, 31)", x, 0, 0, 31);
    }

    private static void farSpans(Span span, int... first) {
        CutLengths x = Strands.of(1, first);
        for (int far : FAR) {
            spanRefused(x, span, far, 1);
            spanRefused(x, span, 1, far);
            spanRefused(x, span, far, 60);
            spanRefused(x, span, far, far);
        }
        spanRefused(x, span, MIN, MAX);
        spanRefused(x, span, MAX, MIN);
        CHECKS.due("loss", 1, x::loss);
    }

    private static void spanRefused(CutLengths x, Span span, int low, int high) {
        CHECKS.refused("(" + low + ", " + high + ")", Checks.RANGE, () -> span.tell(x, low, high));
    }

    private static void numberOfWanted() {
        CutLengths x = new CutLengths();
        for (int i = 0; i < 6; i++) {
            CHECKS.due("want(1, 1)", i, () -> x.want(1, 1));
        }
        CHECKS.refused("a seventh", Checks.TURN, () -> x.want(1, 1));
    }

    private static void spanOfWhich() {
        CutLengths none = new CutLengths();
        CHECKS.refused("span(0, ..) of none", Checks.INDEX, () -> none.span(0, 1, 1));
        CutLengths x = Strands.of(5, 9, 9, 9, 9);
        CHECKS.refused("span(-1, ..)", Checks.INDEX, () -> x.span(-1, 1, 1));
        CHECKS.refused("span(2, ..) of two", Checks.INDEX, () -> x.span(2, 1, 1));
        for (int far : FAR) {
            CHECKS.refused("span(" + far + ", ..)", Checks.INDEX, () -> x.span(far, 1, 1));
        }
        CHECKS.due("loss before", 5, x::loss);
        CHECKS.accepted("span(1, ..)", () -> x.span(1, 3, 3));
        CHECKS.parts("the last", x, 1, 0, 3, -1, 3, 2);
        CHECKS.accepted("span(0, ..)", () -> x.span(0, 4, 4));
        CHECKS.parts("the first", x, 0, 0, 4, -1, 4, 1);
        CutLengths six = Strands.withSixWanted();
        CHECKS.accepted("span(5, ..) of six", () -> six.span(5, 40, 40));
        CHECKS.refused("span(6, ..) of six", Checks.INDEX, () -> six.span(6, 1, 1));
    }

    private static void trim() {
        CHECKS.test("6 the least front", () -> trims(new int[] {0, 0}, new int[] {-1, 0}, 0));
        CHECKS.test("6 the most front", () -> trims(new int[] {300, 0}, new int[] {301, 0}, 300));
        CHECKS.test("6 front below the most", () -> trims(new int[] {299, 0}, new int[] {302, 0}, 299));
        CHECKS.test("6 the least back", () -> trims(new int[] {0, 0}, new int[] {0, -1}, 0));
        CHECKS.test("6 the most back", () -> trims(new int[] {0, 300}, new int[] {0, 301}, 300));
        CHECKS.test("6 back below the most", () -> trims(new int[] {0, 299}, new int[] {0, 302}, 299));
        CHECKS.test("6 both at the most", () -> trims(new int[] {300, 300}, new int[] {301, 301}, 300));
        CHECKS.test("6 trims at the ends of int", RangesTest::farTrims);
        CHECKS.test("6 no trims at first", () -> CHECKS.due("loss", 0, () -> Strands.of(300, 1, 1).loss()));
    }

    private static void trims(int[] allowed, int[] not, int loss) {
        CutLengths x = Strands.of(300, 1, 60);
        CHECKS.accepted("trim(" + allowed[0] + ", " + allowed[1] + ")", () -> x.trim(allowed[0], allowed[1]));
        CHECKS.refused("trim(" + not[0] + ", " + not[1] + ")", Checks.RANGE, () -> x.trim(not[0], not[1]));
        CHECKS.due("loss", loss, x::loss);
    }

    private static void farTrims() {
        CutLengths x = Strands.of(300, 1, 60);
        for (int far : FAR) {
            CHECKS.refused("trim(" + far + ", 0)", Checks.RANGE, () -> x.trim(far, 0));
            CHECKS.refused("trim(0, " + far + ")", Checks.RANGE, () -> x.trim(0, far));
            CHECKS.refused("trim(" + far + ", " + far + ")", Checks.RANGE, () -> x.trim(far, far));
        }
        CHECKS.due("loss", 0, x::loss);
    }

    /** bad and bar have the same ranges for the same two numbers. */
    private interface Stretch {
        int tell(CutLengths x, int from, int to);
    }

    private static void stretches() {
        stretches("7 bad", CutLengths::bad);
        stretches("8 bar", CutLengths::bar);
        CHECKS.test("7 the first step is bad", RangesTest::firstStepBad);
        CHECKS.test("7 the last step is bad", RangesTest::lastStepBad);
        CHECKS.test("8 the first place is barred", RangesTest::firstPlaceBarred);
        CHECKS.test("8 the last places are barred", RangesTest::lastPlacesBarred);
    }

    private static void stretches(String name, Stretch stretch) {
        CHECKS.test(name + ", the least", () -> leastStretch(stretch));
        CHECKS.test(name + ", the most", () -> mostStretch(stretch));
        CHECKS.test(name + ", the second below the first", () -> secondBelowFirst(stretch));
        CHECKS.test(name + ", the ends of int", () -> farStretches(stretch));
        CHECKS.test(name + ", how many", () -> numberOfStretches(stretch));
    }

    private static void leastStretch(Stretch stretch) {
        CutLengths x = Strands.of(300, 60, 60);
        stretchRefused(x, stretch, -1, 0);
        stretchRefused(x, stretch, -1, -1);
        stretchRefused(x, stretch, 0, -1);
        stretchRefused(x, stretch, -1, 300);
        CHECKS.due("(0, 0)", 1, () -> stretch.tell(x, 0, 0));
    }

    private static void mostStretch(Stretch stretch) {
        CutLengths x = Strands.of(300, 60, 60);
        stretchRefused(x, stretch, 301, 301);
        stretchRefused(x, stretch, 300, 301);
        stretchRefused(x, stretch, 0, 301);
        stretchRefused(x, stretch, 301, 300);
        CHECKS.due("(300, 300)", 1, () -> stretch.tell(x, 300, 300));
        CHECKS.due("loss: neither a step nor a place between the ends", 0, x::loss);
        CHECKS.due("(0, 300)", 2, () -> stretch.tell(x, 0, 300));
        CHECKS.due("loss: all", 300, x::loss);
    }

    private static void secondBelowFirst(Stretch stretch) {
        CutLengths x = Strands.of(300, 60, 60);
        stretchRefused(x, stretch, 1, 0);
        stretchRefused(x, stretch, 61, 60);
        stretchRefused(x, stretch, 300, 299);
        stretchRefused(x, stretch, 300, 0);
        CHECKS.due("(59, 60)", 1, () -> stretch.tell(x, 59, 60));
        CHECKS.due("(60, 60)", 2, () -> stretch.tell(x, 60, 60));
    }

    private static void farStretches(Stretch stretch) {
        CutLengths x = Strands.of(300, 60, 60);
        for (int far : FAR) {
            stretchRefused(x, stretch, far, far);
            stretchRefused(x, stretch, far, 0);
            stretchRefused(x, stretch, far, 300);
            stretchRefused(x, stretch, 0, far);
            stretchRefused(x, stretch, 300, far);
        }
        stretchRefused(x, stretch, MIN, MAX);
        stretchRefused(x, stretch, MAX, MIN);
        CHECKS.due("loss", 0, x::loss);
        CHECKS.due("none was counted", 1, () -> stretch.tell(x, 0, 0));
    }

    private static void numberOfStretches(Stretch stretch) {
        CutLengths x = new CutLengths();
        for (int i = 1; i <= 20; i++) {
            CHECKS.due("(7, 7)", i, () -> stretch.tell(x, 7, 7));
        }
        CHECKS.refused("a 21st", Checks.TURN, () -> stretch.tell(x, 7, 7));
    }

    private static void firstStepBad() {
        CutLengths x = Strands.of(60, 30, 30);
        x.bad(0, 1);
        CHECKS.parts("bad(0, 1)", x, -1, 0, 1, 0, 1, 30, -1, 31, 29);
    }

    private static void lastStepBad() {
        CutLengths x = Strands.of(300, 60, 60);
        x.bad(299, 300);
        CHECKS.parts("bad(299, 300)", x, 0, 0, 60, 0, 60, 60, 0, 120, 60, 0, 180, 60, -1, 240, 60);
    }

    private static void firstPlaceBarred() {
        CutLengths x = Strands.of(4, 3, 3);
        x.bar(0, 0);
        CHECKS.parts("bar(0, 0), where the torch is", x, 0, 0, 3, -1, 3, 1);
        x.bar(1, 1);
        CHECKS.parts("bar(1, 1)", x, 0, 0, 3, -1, 3, 1);
        x.bad(0, 1);
        CHECKS.parts("bar(1, 1), behind a bad step", x, -1, 0, 4);
    }

    private static void lastPlacesBarred() {
        CutLengths x = Strands.of(300, 60, 60);
        x.bad(0, 239);
        x.bar(300, 300);
        CHECKS.parts("bar(300, 300), where the end is", x, -1, 0, 239, 0, 239, 60, -1, 299, 1);
        x.bar(299, 299);
        CHECKS.parts("bar(299, 299)", x, -1, 0, 240, 0, 240, 60);
    }

    private static void stretchRefused(CutLengths x, Stretch stretch, int from, int to) {
        CHECKS.refused("(" + from + ", " + to + ")", Checks.RANGE, () -> stretch.tell(x, from, to));
    }

    private static void plan() {
        CHECKS.test("10 the least part", RangesTest::leastPart);
        CHECKS.test("10 the last part", RangesTest::lastPart);
        CHECKS.test("10 the last part of 300", RangesTest::lastPartOf300);
        CHECKS.test("10 part's what", RangesTest::partsWhat);
    }

    private static void leastPart() {
        CutLengths x = Strands.of(5, 2, 2);
        CHECKS.due("part(0, 2)", 2, () -> x.part(0, 2));
        for (int i : new int[] {-1, -2, MIN, MIN + 1}) {
            for (int what = 0; what < 3; what++) {
                int asked = what;
                CHECKS.refused("part(" + i + ", " + what + ")", Checks.INDEX, () -> x.part(i, asked));
            }
        }
    }

    private static void lastPart() {
        CutLengths x = Strands.of(5, 2, 2);
        CHECKS.due("part(2, 2)", 1, () -> x.part(2, 2));
        for (int i : new int[] {3, 4, 5, 6, 299, 300, 301, 302, MAX - 1, MAX}) {
            for (int what = 0; what < 3; what++) {
                int asked = what;
                CHECKS.due("part(" + i + ", " + what + ")", -2, () -> x.part(i, asked));
            }
        }
    }

    private static void lastPartOf300() {
        CutLengths x = Strands.of(300, 1, 1);
        CHECKS.due("part(299, 0)", 0, () -> x.part(299, 0));
        CHECKS.due("part(299, 1)", 299, () -> x.part(299, 1));
        CHECKS.due("part(299, 2)", 1, () -> x.part(299, 2));
        for (int i : new int[] {300, 301, 302, MAX - 1, MAX}) {
            for (int what = 0; what < 3; what++) {
                int asked = what;
                CHECKS.due("part(" + i + ", " + what + ")", -2, () -> x.part(i, asked));
            }
        }
    }

    private static void partsWhat() {
        CutLengths x = Strands.of(5, 2, 2);
        CHECKS.due("part(1, 0)", 0, () -> x.part(1, 0));
        CHECKS.due("part(1, 1)", 2, () -> x.part(1, 1));
        CHECKS.due("part(1, 2)", 2, () -> x.part(1, 2));
        for (int what : new int[] {-2, -1, 3, 4, MIN, MAX}) {
            for (int i : new int[] {0, 2, 3, MAX}) {
                CHECKS.refused("part(" + i + ", " + what + ")", Checks.INDEX, () -> x.part(i, what));
            }
        }
    }

    private static void slabs() {
        CHECKS.test("12 which slab", RangesTest::whichSlab);
        CHECKS.test("12 slab's what", RangesTest::slabsWhat);
        CHECKS.test("13 which slab's weight", RangesTest::whichWeight);
        CHECKS.test("14 which wanted length's count", RangesTest::whichCount);
        CHECKS.test("11 the number of slabs", RangesTest::numberOfSlabs);
        CHECKS.test("11 the torch at place n", RangesTest::torchAtTheEnd);
    }

    private static void whichSlab() {
        CutLengths x = Strands.of(5, 2, 2);
        CHECKS.refused("slab(0, 0) of none", Checks.INDEX, () -> x.slab(0, 0));
        Strands.cut(x, 2);
        CHECKS.slab("the first", x, 0, 0, 0, 2);
        CHECKS.slab("the last", x, 1, 0, 2, 2);
        for (int slab : new int[] {-1, -2, 2, 3, 99, 100, MIN, MAX}) {
            for (int what = 0; what < 3; what++) {
                int asked = what;
                CHECKS.refused("slab(" + slab + ", " + what + ")", Checks.INDEX, () -> x.slab(slab, asked));
            }
        }
    }

    private static void slabsWhat() {
        CutLengths x = Strands.of(5, 2, 2);
        x.cut();
        CHECKS.slab("what 0 to 2", x, 0, 0, 0, 2);
        for (int what : new int[] {-2, -1, 3, 4, MIN, MAX}) {
            CHECKS.refused("slab(0, " + what + ")", Checks.INDEX, () -> x.slab(0, what));
        }
    }

    private static void whichWeight() {
        CutLengths x = Strands.of(5, 2, 2);
        CHECKS.refused("weight(0) of none", Checks.INDEX, () -> x.weight(0));
        Strands.cut(x, 3);
        CHECKS.due("weight(0)", 200, () -> x.weight(0));
        CHECKS.due("weight(2)", 100, () -> x.weight(2));
        for (int slab : new int[] {-1, -2, 3, 4, 99, 100, MIN, MAX}) {
            CHECKS.refused("weight(" + slab + ")", Checks.INDEX, () -> x.weight(slab));
        }
    }

    private static void whichCount() {
        CutLengths x = Strands.of(5, 9, 9, 2, 2);
        Strands.cut(x, 3);
        CHECKS.due("count(-1)", 1, () -> x.count(-1));
        CHECKS.due("count(0)", 0, () -> x.count(0));
        CHECKS.due("count(1)", 2, () -> x.count(1));
        for (int wanted : new int[] {-3, -2, 2, 3, 5, 6, MIN, MAX}) {
            CHECKS.refused("count(" + wanted + ")", Checks.INDEX, () -> x.count(wanted));
        }
        CutLengths six = Strands.withSixWanted();
        CHECKS.due("count(5) of six", 0, () -> six.count(5));
        CHECKS.refused("count(6) of six", Checks.INDEX, () -> six.count(6));
    }

    private static void numberOfSlabs() {
        CutLengths x = Strands.of(102, 1, 1);
        Strands.cut(x, 99);
        CHECKS.due("the 100th", 99, x::cut);
        CHECKS.refused("a 101st", Checks.MEANING, x::cut);
        CHECKS.due("torch", 100, x::torch);
    }

    private static void torchAtTheEnd() {
        CutLengths x = Strands.of(4, 3, 3);
        x.cut();
        CHECKS.due("a step ahead", 1, x::cut);
        CHECKS.refused("none ahead", Checks.TURN, x::cut);
        x.cast(0);
        CHECKS.refused("none more was cast", Checks.TURN, x::cut);
        x.cast(1);
        CHECKS.due("one more was cast", 2, x::cut);
    }
}
