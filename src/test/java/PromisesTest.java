/** Each promise of the document: ordinary inputs, its edges and wrong inputs. */
public final class PromisesTest {
    private static final Class<IllegalStateException> TURN = Checks.TURN;
    private static final Class<IllegalArgumentException> RANGE = Checks.RANGE;
    private static final Class<IndexOutOfBoundsException> INDEX = Checks.INDEX;
    private static final Class<UnsupportedOperationException> MEANING = Checks.MEANING;
    private static final int[] FAR = {Integer.MIN_VALUE, Integer.MAX_VALUE};

    private static final Checks CHECKS = new Checks();

    public static void main(String[] args) {
        newObject();
        stepTold();
        stepRefused();
        castGrows();
        castRefused();
        wantNumbers();
        wantRefused();
        spanToldAnew();
        spanRefused();
        trimsBothEnds();
        trimRefused();
        badParts();
        badRefused();
        barsAtCuts();
        barsAtTorchAndEnd();
        barRefused();
        lossIsLeast();
        preferences();
        partsOfThePlan();
        partRefused();
        cutsOneAfterAnother();
        cutPlansAnew();
        cutRefused();
        slabsAsCut();
        weights();
        counts();
        torchMoves();
        refusedChangesNothing();
        CHECKS.end();
    }

    // Promise 1

    private static void newObject() {
        CutLengths x = new CutLengths();
        CHECKS.due("1 cast(0)", 0, () -> x.cast(0));
        CHECKS.due("1 loss", 0, x::loss);
        CHECKS.due("1 torch", 0, x::torch);
        CHECKS.due("1 part(0, 0)", -2, () -> x.part(0, 0));
        CHECKS.due("1 count(-1)", 0, () -> x.count(-1));
        CHECKS.refused("1 count(0)", INDEX, () -> x.count(0));
        CHECKS.refused("1 slab(0, 0)", INDEX, () -> x.slab(0, 0));
        CHECKS.refused("1 span(0, 1, 1)", INDEX, () -> x.span(0, 1, 1));
        CHECKS.refused("1 cut", TURN, x::cut);
        CHECKS.due("1 cast(7)", 7, () -> x.cast(7));
        CHECKS.due("1 loss with nothing wanted", 7, x::loss);
        CHECKS.due("1 cut", 0, x::cut);
        CHECKS.due("1 weight: 700 mm of 1,000 kg a metre", 700, () -> x.weight(0));
        CutLengths other = new CutLengths();
        CHECKS.due("1 objects are apart", 0, other::torch);
    }

    // Promise 2

    private static void stepTold() {
        CutLengths x = new CutLengths();
        CHECKS.accepted("2 step(1, 1)", () -> x.step(1, 1));
        CHECKS.accepted("2 step(65536, 100000)", () -> x.step(65536, 100000));
        CHECKS.accepted("2 step(250, 7) anew", () -> x.step(250, 7));
        x.cast(9);
        x.cut();
        CHECKS.due("2 weight: 2,250 mm of 7 kg a metre", 15, () -> x.weight(0));
    }

    private static void stepRefused() {
        CutLengths x = new CutLengths();
        CHECKS.refused("2 step(0, 1)", RANGE, () -> x.step(0, 1));
        CHECKS.refused("2 step(1, 0)", RANGE, () -> x.step(1, 0));
        CHECKS.refused("2 step(65537, 1)", RANGE, () -> x.step(65537, 1));
        CHECKS.refused("2 step(1, 100001)", RANGE, () -> x.step(1, 100001));
        for (int far : FAR) {
            CHECKS.refused("2 step far", RANGE, () -> x.step(far, 1));
            CHECKS.refused("2 step far", RANGE, () -> x.step(1, far));
        }
        x.cast(2);
        CHECKS.accepted("2 step after cast", () -> x.step(100, 1000));
        x.cut();
        CHECKS.refused("2 step after a cut", TURN, () -> x.step(5, 5));
        CHECKS.refused("2 turn ahead of range", TURN, () -> x.step(0, 0));
        CHECKS.due("2 weight unchanged", 200, () -> x.weight(0));
    }

    // Promise 3

    private static void castGrows() {
        CutLengths x = new CutLengths();
        CHECKS.due("3 cast(299)", 299, () -> x.cast(299));
        CHECKS.due("3 cast(1)", 300, () -> x.cast(1));
        CHECKS.due("3 cast(0) when full", 300, () -> x.cast(0));
        CHECKS.due("3 loss", 300, x::loss);
        x.cut();
        CHECKS.refused("3 what was cut still counts", MEANING, () -> x.cast(1));
    }

    private static void castRefused() {
        CutLengths x = new CutLengths();
        CHECKS.refused("3 cast(-1)", RANGE, () -> x.cast(-1));
        CHECKS.refused("3 cast(MIN)", RANGE, () -> x.cast(Integer.MIN_VALUE));
        CHECKS.refused("3 cast(301)", MEANING, () -> x.cast(301));
        x.cast(200);
        CHECKS.refused("3 cast(101) on 200", MEANING, () -> x.cast(101));
        CHECKS.refused("3 cast(MAX) on 200", MEANING, () -> x.cast(Integer.MAX_VALUE));
        CHECKS.refused("3 cast(-1) on 200", RANGE, () -> x.cast(-1));
        CHECKS.due("3 cast(0)", 200, () -> x.cast(0));
    }

    // Promise 4

    private static void wantNumbers() {
        CutLengths x = new CutLengths();
        CHECKS.due("4 want(60, 60)", 0, () -> x.want(60, 60));
        x.cast(119);
        CHECKS.due("4 loss with want(60, 60)", 59, x::loss);
        CHECKS.due("4 want(1, 60)", 1, () -> x.want(1, 60));
        CHECKS.due("4 loss with want(1, 60)", 0, x::loss);
        for (int i = 2; i < 6; i++) {
            CHECKS.due("4 want, the same span again", i, () -> x.want(1, 1));
        }
        CHECKS.due("4 the sixth is there", 0, () -> x.count(5));
    }

    private static void wantRefused() {
        CutLengths x = new CutLengths();
        int[][] wrong = {{0, 5}, {-1, 5}, {0, 0}, {5, 4}, {61, 61}, {1, 61}, {60, 1}};
        for (int[] span : wrong) {
            CHECKS.refused("4 want(" + span[0] + ", " + span[1] + ")", RANGE, () -> x.want(span[0], span[1]));
        }
        for (int far : FAR) {
            CHECKS.refused("4 want far", RANGE, () -> x.want(far, far));
            CHECKS.refused("4 want far", RANGE, () -> x.want(1, far));
            CHECKS.refused("4 want far", RANGE, () -> x.want(far, 1));
        }
        CHECKS.due("4 the refused are not there", 0, () -> x.want(1, 1));
        for (int i = 1; i < 6; i++) {
            x.want(2, 2);
        }
        CHECKS.refused("4 a seventh", TURN, () -> x.want(1, 1));
        CHECKS.refused("4 turn ahead of range", TURN, () -> x.want(0, 0));
        CHECKS.refused("4 no seventh", INDEX, () -> x.count(6));
    }

    // Promise 5

    private static void spanToldAnew() {
        CutLengths x = strand(10, 3, 3, 4, 4);
        CHECKS.due("5 loss", 0, x::loss);
        CHECKS.accepted("5 span(1, 3, 3)", () -> x.span(1, 3, 3));
        CHECKS.due("5 loss of threes alone", 1, x::loss);
        CHECKS.accepted("5 span(0, 1, 60)", () -> x.span(0, 1, 60));
        parts("5 one piece", x, 0, 0, 10);
        CHECKS.accepted("5 span(0, 60, 60)", () -> x.span(0, 60, 60));
        CHECKS.accepted("5 span(1, 1, 1)", () -> x.span(1, 1, 1));
        CHECKS.due("5 the second of ones", 1, () -> x.part(0, 0));
        x.cut();
        CHECKS.accepted("5 span after a cut", () -> x.span(1, 9, 9));
        CHECKS.due("5 slab 0 stays as cut", 1, () -> x.slab(0, 2));
        CHECKS.due("5 planned anew", 9, () -> x.part(0, 2));
    }

    private static void spanRefused() {
        CutLengths x = strand(10, 3, 3);
        CHECKS.refused("5 span(1, ..)", INDEX, () -> x.span(1, 1, 1));
        CHECKS.refused("5 span(-1, ..)", INDEX, () -> x.span(-1, 1, 1));
        CHECKS.refused("5 index ahead of range", INDEX, () -> x.span(1, 0, 0));
        for (int far : FAR) {
            CHECKS.refused("5 span far", INDEX, () -> x.span(far, 1, 1));
            CHECKS.refused("5 span far", RANGE, () -> x.span(0, far, far));
        }
        int[][] wrong = {{0, 5}, {5, 4}, {61, 61}, {1, 61}, {-3, -2}};
        for (int[] span : wrong) {
            CHECKS.refused("5 span(0, " + span[0] + ", " + span[1] + ")", RANGE, () -> x.span(0, span[0], span[1]));
        }
        CHECKS.due("5 the span is as it was", 3, () -> x.part(0, 2));
    }

    // Promise 6

    private static void trimsBothEnds() {
        CutLengths x = strand(10, 1, 60);
        x.trim(2, 3);
        CHECKS.due("6 loss", 5, x::loss);
        parts("6 trims", x, -1, 0, 2, 0, 2, 5, -1, 7, 3);
        x.cast(4);
        parts("6 the back trim goes with the end", x, -1, 0, 2, 0, 2, 9, -1, 11, 3);
        x.trim(0, 0);
        CHECKS.due("6 no trims", 0, x::loss);
        x.trim(14, 0);
        CHECKS.due("6 front over all", 14, x::loss);
        x.trim(13, 0);
        CHECKS.due("6 front but one", 13, x::loss);
        x.trim(0, 300);
        CHECKS.due("6 back beyond all", 14, x::loss);
        x.trim(300, 300);
        CHECKS.due("6 both beyond all", 14, x::loss);
        x.trim(8, 8);
        CHECKS.due("6 trims over each other", 14, x::loss);
        x.trim(5, 0);
        x.span(0, 1, 3);
        x.cut();
        x.cut();
        CHECKS.due("6 torch behind the front trim", 8, x::torch);
        CHECKS.due("6 the front trim counts from place 0", 0, x::loss);
        x.trim(10, 0);
        CHECKS.due("6 a front trim beyond the torch", 2, x::loss);
    }

    private static void trimRefused() {
        CutLengths x = strand(10, 1, 60);
        x.trim(1, 1);
        int[][] wrong = {{-1, 0}, {0, -1}, {301, 0}, {0, 301}, {Integer.MIN_VALUE, 0}, {0, Integer.MIN_VALUE},
            {Integer.MAX_VALUE, 0}, {0, Integer.MAX_VALUE}};
        for (int[] trims : wrong) {
            CHECKS.refused("6 trim(" + trims[0] + ", " + trims[1] + ")", RANGE, () -> x.trim(trims[0], trims[1]));
        }
        parts("6 the trims are as they were", x, -1, 0, 1, 0, 1, 8, -1, 9, 1);
    }

    // Promise 7

    private static void badParts() {
        CutLengths x = strand(10, 1, 60);
        CHECKS.due("7 bad(4, 6)", 1, () -> x.bad(4, 6));
        parts("7 steps 4 and 5", x, 0, 0, 4, -1, 4, 2, 0, 6, 4);
        CHECKS.due("7 bad(5, 7) over it", 2, () -> x.bad(5, 7));
        parts("7 steps 4 to 6", x, 0, 0, 4, -1, 4, 3, 0, 7, 3);
        CHECKS.due("7 bad(2, 2) is empty", 3, () -> x.bad(2, 2));
        CHECKS.due("7 bad(300, 300) is empty", 4, () -> x.bad(300, 300));
        CHECKS.due("7 loss", 3, x::loss);
        CHECKS.due("7 bad(0, 1)", 5, () -> x.bad(0, 1));
        CHECKS.due("7 bad(9, 300)", 6, () -> x.bad(9, 300));
        parts("7 both ends", x, -1, 0, 1, 0, 1, 3, -1, 4, 3, 0, 7, 2, -1, 9, 1);
        x.cast(5);
        CHECKS.due("7 what is cast into a bad part", 6, () -> x.part(4, 2));
        for (int i = 7; i <= 20; i++) {
            CHECKS.due("7 up to 20", i, () -> x.bad(0, 0));
        }
        CHECKS.refused("7 a 21st", TURN, () -> x.bad(1, 2));
        CHECKS.refused("7 turn ahead of range", TURN, () -> x.bad(-1, 400));
        CHECKS.due("7 loss unchanged", 10, x::loss);
    }

    private static void badRefused() {
        CutLengths x = strand(10, 1, 60);
        refusedStretches("7 bad", (from, to) -> x.bad(from, to));
        CHECKS.due("7 nothing is bad", 0, x::loss);
        CHECKS.due("7 none counted", 1, () -> x.bad(0, 300));
    }

    // Promise 8

    private static void barsAtCuts() {
        CutLengths x = strand(12, 4, 6);
        parts("8 no bars", x, 0, 0, 6, 0, 6, 6);
        CHECKS.due("8 bar(6, 6)", 1, () -> x.bar(6, 6));
        CHECKS.due("8 loss: 4 + 4 + 4 is left", 0, x::loss);
        parts("8 fours", x, 0, 0, 4, 0, 4, 4, 0, 8, 4);
        CHECKS.due("8 bar(8, 8)", 2, () -> x.bar(8, 8));
        parts("8 one step of scrap", x, 0, 0, 5, 0, 5, 6, -1, 11, 1);
        CHECKS.due("8 bar(4, 7)", 3, () -> x.bar(4, 7));
        parts("8 both ends of a bar are barred", x, -1, 0, 3, 0, 3, 6, -1, 9, 3);
        CHECKS.due("8 bar(0, 300)", 4, () -> x.bar(0, 300));
        CHECKS.due("8 all barred, torch and end too far apart", 12, x::loss);
        x.span(0, 12, 12);
        CHECKS.due("8 from the torch to the end", 0, x::loss);
        x.cast(1);
        CHECKS.due("8 the old end is barred", 13, x::loss);
        for (int i = 5; i <= 20; i++) {
            CHECKS.due("8 up to 20", i, () -> x.bar(300, 300));
        }
        CHECKS.refused("8 a 21st", TURN, () -> x.bar(0, 0));
        CHECKS.refused("8 turn ahead of range", TURN, () -> x.bar(-1, 0));
    }

    private static void barsAtTorchAndEnd() {
        CutLengths x = strand(5, 5, 5);
        x.bar(0, 0);
        x.bar(5, 5);
        parts("8 torch and end barred", x, 0, 0, 5);
        x.cut();
        x.cast(5);
        parts("8 the torch at a barred place", x, 0, 5, 5);
        x.cast(1);
        x.bar(6, 6);
        parts("8 scrap ends at no barred place", x, 0, 5, 5, -1, 10, 1);
        x.bar(10, 10);
        CHECKS.due("8 neither from 6 nor to 10", 6, x::loss);
    }

    private static void barRefused() {
        CutLengths x = strand(10, 5, 5);
        refusedStretches("8 bar", (from, to) -> x.bar(from, to));
        CHECKS.due("8 nothing is barred", 0, x::loss);
        CHECKS.due("8 none counted", 1, () -> x.bar(0, 300));
    }

    // Promise 9

    private static void lossIsLeast() {
        CutLengths x = strand(11, 4, 4, 7, 7);
        CHECKS.due("9 4 + 7", 0, x::loss);
        x.cast(1);
        CHECKS.due("9 4 + 4 + 4", 0, x::loss);
        x.cast(1);
        CHECKS.due("9 13 from fours and sevens", 1, x::loss);
        x.cut();
        CHECKS.due("9 the same after a piece", 1, x::loss);
        CutLengths scrapFirst = strand(9, 4, 4);
        scrapFirst.trim(1, 0);
        CHECKS.due("9 one trimmed", 1, scrapFirst::loss);
        scrapFirst.cut();
        CHECKS.due("9 what was cut as scrap no more", 0, scrapFirst::loss);
        CutLengths full = strand(300, 7, 7, 60, 60);
        CHECKS.due("9 five sixties", 0, full::loss);
        full.bar(1, 299);
        CHECKS.due("9 no cut but at the ends", 300, full::loss);
    }

    // The plan's preferences, seen through promise 10

    private static void preferences() {
        parts("10 a piece ahead of scrap", strand(5, 4, 4), 0, 0, 4, -1, 4, 1);
        parts("10 the lowest wanted length", strand(6, 2, 2, 6, 6), 0, 0, 2, 0, 2, 2, 0, 4, 2);
        parts("10 of these the longest", strand(7, 2, 5), 0, 0, 5, 0, 5, 2);
        parts("10 the longest that loses nothing", strand(9, 4, 6), 0, 0, 5, 0, 5, 4);
        parts("10 the lowest, though another one is longer", strand(5, 2, 3, 5, 5), 0, 0, 3, 0, 3, 2);
        parts("10 a higher one where the lower loses", strand(5, 3, 3, 2, 2), 0, 0, 3, 1, 3, 2);
        parts("10 from each place on", strand(6, 3, 3, 1, 1), 0, 0, 3, 0, 3, 3);
        parts("10 of two alike the lower", strand(4, 4, 4, 4, 4), 0, 0, 4);
        CutLengths barred = strand(7, 3, 3);
        barred.bar(3, 3);
        parts("10 scrap ahead where a piece loses more", barred, -1, 0, 1, 0, 1, 3, 0, 4, 3);
    }

    // Promise 10

    private static void partsOfThePlan() {
        CutLengths x = strand(20, 4, 4);
        x.trim(1, 2);
        x.bad(6, 7);
        parts("10 scrap side by side is one", x, -1, 0, 1, 0, 1, 4, -1, 5, 2, 0, 7, 4, 0, 11, 4, -1, 15, 5);
        x.cut();
        parts("10 from the torch on", x, 0, 1, 4, -1, 5, 2, 0, 7, 4, 0, 11, 4, -1, 15, 5);
        CutLengths ones = strand(300, 1, 1);
        for (int i = 0; i < 300; i += 13) {
            int part = i;
            CHECKS.due("10 300 parts", i, () -> ones.part(part, 1));
        }
        CHECKS.due("10 the last of 300", 299, () -> ones.part(299, 1));
        CHECKS.due("10 no 301st", -2, () -> ones.part(300, 1));
    }

    private static void partRefused() {
        CutLengths x = strand(10, 5, 5);
        CHECKS.due("10 part(2, 0)", -2, () -> x.part(2, 0));
        CHECKS.due("10 part(2, 2)", -2, () -> x.part(2, 2));
        CHECKS.due("10 part(301, 1)", -2, () -> x.part(301, 1));
        CHECKS.due("10 part(MAX, 1)", -2, () -> x.part(Integer.MAX_VALUE, 1));
        CHECKS.refused("10 part(-1, 0)", INDEX, () -> x.part(-1, 0));
        CHECKS.refused("10 part(MIN, 0)", INDEX, () -> x.part(Integer.MIN_VALUE, 0));
        CHECKS.refused("10 part(0, -1)", INDEX, () -> x.part(0, -1));
        CHECKS.refused("10 part(0, 3)", INDEX, () -> x.part(0, 3));
        CHECKS.refused("10 part(5, 3), beyond the plan", INDEX, () -> x.part(5, 3));
        for (int far : FAR) {
            CHECKS.refused("10 part(0, far)", INDEX, () -> x.part(0, far));
        }
    }

    // Promise 11

    private static void cutsOneAfterAnother() {
        CutLengths x = strand(13, 4, 4);
        x.trim(2, 1);
        CHECKS.due("11 scrap", 0, x::cut);
        CHECKS.due("11 a piece", 1, x::cut);
        CHECKS.due("11 a piece", 2, x::cut);
        CHECKS.due("11 all scrap up to the end", 3, x::cut);
        CHECKS.due("11 torch", 13, x::torch);
        CHECKS.due("11 loss", 0, x::loss);
        CHECKS.due("11 no parts", -2, () -> x.part(0, 0));
        CHECKS.refused("11 at the end", TURN, x::cut);
        x.trim(0, 0);
        x.cast(4);
        CHECKS.due("11 a new piece", 4, x::cut);
        CHECKS.due("11 its steps", 4, () -> x.slab(4, 2));
    }

    private static void cutPlansAnew() {
        CutLengths x = strand(12, 4, 4);
        x.cut();
        x.bad(5, 6);
        parts("11 after bad", x, -1, 4, 2, 0, 6, 4, -1, 10, 2);
        CHECKS.due("11 scrap", 1, x::cut);
        x.bar(10, 10);
        parts("11 after bar", x, -1, 6, 1, 0, 7, 4, -1, 11, 1);
        x.want(3, 3);
        parts("11 after want", x, 1, 6, 3, 1, 9, 3);
        x.cut();
        x.cast(2);
        parts("11 after cast", x, 0, 9, 4, -1, 13, 1);
        x.trim(0, 3);
        parts("11 after trim", x, -1, 9, 5);
        x.trim(300, 0);
        parts("11 after trim", x, -1, 9, 5);
        x.trim(0, 0);
        x.span(0, 5, 5);
        parts("11 after span", x, 0, 9, 5);
        CHECKS.due("11 cut", 3, x::cut);
        CHECKS.due("11 torch", 14, x::torch);
    }

    private static void cutRefused() {
        CutLengths x = strand(101, 1, 1);
        for (int i = 0; i < 100; i++) {
            CHECKS.due("11 up to 100 slabs", i, x::cut);
        }
        CHECKS.refused("11 a 101st", MEANING, x::cut);
        CHECKS.due("11 torch unchanged", 100, x::torch);
        CHECKS.due("11 loss", 0, x::loss);
        CutLengths full = strand(100, 1, 1);
        for (int i = 0; i < 100; i++) {
            full.cut();
        }
        CHECKS.refused("11 turn ahead of meaning", TURN, full::cut);
    }

    // Promise 12

    private static void slabsAsCut() {
        CutLengths x = strand(13, 60, 60, 4, 4);
        x.trim(3, 0);
        x.cut();
        x.cut();
        x.cut();
        slab("12 scrap", x, 0, -1, 0, 3);
        slab("12 a piece", x, 1, 1, 3, 4);
        slab("12 a piece", x, 2, 1, 7, 4);
        x.span(1, 9, 9);
        x.trim(0, 0);
        x.bad(0, 300);
        slab("12 stays as it was cut", x, 2, 1, 7, 4);
        CHECKS.refused("12 slab(3, 0), not cut yet", INDEX, () -> x.slab(3, 0));
        CHECKS.refused("12 slab(-1, 0)", INDEX, () -> x.slab(-1, 0));
        CHECKS.refused("12 slab(0, -1)", INDEX, () -> x.slab(0, -1));
        CHECKS.refused("12 slab(0, 3)", INDEX, () -> x.slab(0, 3));
        CHECKS.refused("12 slab(100, 0)", INDEX, () -> x.slab(100, 0));
        for (int far : FAR) {
            CHECKS.refused("12 slab(far, 0)", INDEX, () -> x.slab(far, 0));
            CHECKS.refused("12 slab(0, far)", INDEX, () -> x.slab(0, far));
        }
    }

    // Promise 13

    private static void weights() {
        CutLengths x = strand(5, 3, 3);
        x.step(111, 33);
        x.cut();
        x.cut();
        CHECKS.due("13 333 mm of 33 kg: 10.989", 10, () -> x.weight(0));
        CHECKS.due("13 scrap, 222 mm of 33 kg: 7.326", 7, () -> x.weight(1));
        CHECKS.refused("13 weight(2)", INDEX, () -> x.weight(2));
        CHECKS.refused("13 weight(-1)", INDEX, () -> x.weight(-1));
        for (int far : FAR) {
            CHECKS.refused("13 weight(far)", INDEX, () -> x.weight(far));
        }
        CutLengths light = new CutLengths();
        light.step(1, 1);
        light.cast(300);
        light.cut();
        CHECKS.due("13 below a kilo", 0, () -> light.weight(0));
        CutLengths heavy = new CutLengths();
        heavy.step(65536, 100000);
        heavy.cast(300);
        heavy.cut();
        CHECKS.due("13 the heaviest", 1966080000L, () -> heavy.weight(0));
        CHECKS.refused("13 none", INDEX, () -> new CutLengths().weight(0));
    }

    // Promise 14

    private static void counts() {
        CutLengths x = strand(21, 5, 5, 3, 3);
        x.trim(1, 1);
        x.bad(11, 13);
        while (x.torch() < 21) {
            x.cut();
        }
        CHECKS.due("14 scrap: front trim, bad part, back trim with a step beside it", 3, () -> x.count(-1));
        CHECKS.due("14 fives", 2, () -> x.count(0));
        CHECKS.due("14 threes", 2, () -> x.count(1));
        x.trim(0, 0);
        x.cast(3);
        CHECKS.due("14 what is planned does not count", 2, () -> x.count(1));
        x.cut();
        CHECKS.due("14 one three more", 3, () -> x.count(1));
        x.span(1, 4, 4);
        CHECKS.due("14 a span told anew leaves it", 3, () -> x.count(1));
        CHECKS.refused("14 count(2)", INDEX, () -> x.count(2));
        CHECKS.refused("14 count(-2)", INDEX, () -> x.count(-2));
        for (int far : FAR) {
            CHECKS.refused("14 count(far)", INDEX, () -> x.count(far));
        }
        CHECKS.due("14 a new length", 2, () -> x.want(1, 1));
        CHECKS.due("14 none of it", 0, () -> x.count(2));
    }

    // Promise 15

    private static void torchMoves() {
        CutLengths x = strand(9, 4, 4);
        x.trim(3, 0);
        CHECKS.due("15 at place 0", 0, x::torch);
        x.loss();
        CHECKS.due("15 planning leaves it", 0, x::torch);
        x.cut();
        CHECKS.due("15 behind scrap", 3, x::torch);
        x.cut();
        CHECKS.due("15 behind a piece", 7, x::torch);
        x.cut();
        CHECKS.due("15 at the end", 9, x::torch);
        x.cast(1);
        CHECKS.due("15 casting leaves it", 9, x::torch);
    }

    // "What is refused changes nothing", over all calls at once.

    private static void refusedChangesNothing() {
        CutLengths x = strand(10, 3, 3);
        x.cut();
        CHECKS.refused("step", TURN, () -> x.step(1, 1));
        CHECKS.refused("cast", MEANING, () -> x.cast(291));
        CHECKS.refused("want", RANGE, () -> x.want(7, 61));
        CHECKS.refused("span", RANGE, () -> x.span(0, 7, 61));
        CHECKS.refused("trim", RANGE, () -> x.trim(5, 301));
        CHECKS.refused("bad", RANGE, () -> x.bad(4, 301));
        CHECKS.refused("bar", RANGE, () -> x.bar(4, 301));
        parts("the plan is as it was", x, 0, 3, 3, 0, 6, 3, -1, 9, 1);
        CHECKS.due("weight is as it was", 300, () -> x.weight(0));
        CHECKS.due("n is as it was", 10, () -> x.cast(0));
        CHECKS.due("bad parts are none", 1, () -> x.bad(0, 0));
        CHECKS.due("bars are none", 1, () -> x.bar(0, 0));
        CHECKS.due("wanted lengths are as they were", 1, () -> x.want(1, 1));
    }

    // Helpers

    private interface Stretch {
        void tell(int from, int to);
    }

    private static void refusedStretches(String name, Stretch stretch) {
        int[][] wrong = {{-1, 0}, {-1, -1}, {5, 4}, {0, 301}, {301, 301}, {300, 0}, {0, -1},
            {Integer.MIN_VALUE, 0}, {0, Integer.MAX_VALUE}, {Integer.MAX_VALUE, Integer.MAX_VALUE},
            {Integer.MIN_VALUE, Integer.MAX_VALUE}, {Integer.MAX_VALUE, Integer.MIN_VALUE}};
        for (int[] ends : wrong) {
            CHECKS.refused(name + "(" + ends[0] + ", " + ends[1] + ")", RANGE, () -> stretch.tell(ends[0], ends[1]));
        }
    }

    private static CutLengths strand(int steps, int... spans) {
        return Strands.of(steps, spans);
    }

    private static void parts(String name, CutLengths x, int... due) {
        CHECKS.parts(name, x, due);
    }

    private static void slab(String name, CutLengths x, int slab, int wanted, int begin, int steps) {
        CHECKS.slab(name, x, slab, wanted, begin, steps);
    }
}
