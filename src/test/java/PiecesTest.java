/** The edges of a piece, and the plan's choice among several ways with as few steps of scrap. */
public final class PiecesTest {
    private static final Checks CHECKS = new Checks();

    public static void main(String[] args) {
        spans();
        bars();
        badAndTrimmed();
        choice();
        cutting();
        CHECKS.end();
    }

    private static void spans() {
        CHECKS.test("a step below the span", () -> alone(3, -1));
        CHECKS.test("as long as low", () -> alone(4, 0));
        CHECKS.test("as long as high", () -> alone(6, 0));
        CHECKS.test("a step above the span", PiecesTest::aboveTheSpan);
        CHECKS.test("the shortest span, the shortest strand", PiecesTest::oneStep);
        CHECKS.test("the longest piece", PiecesTest::longestPiece);
    }

    private static void alone(int n, int wanted) {
        CHECKS.parts("a strand of " + n, Strands.of(n, 4, 6), wanted, 0, n);
    }

    private static void aboveTheSpan() {
        CHECKS.parts("a strand of 7", Strands.of(7, 4, 6), 0, 0, 6, -1, 6, 1);
    }

    private static void oneStep() {
        CHECKS.parts("a strand of 1", Strands.of(1, 1, 1), 0, 0, 1);
        CHECKS.parts("a strand of 1 with no such piece", Strands.of(1, 2, 2), -1, 0, 1);
    }

    private static void longestPiece() {
        CHECKS.parts("59 steps", Strands.of(59, 60, 60), -1, 0, 59);
        CHECKS.parts("60 steps", Strands.of(60, 60, 60), 0, 0, 60);
        CHECKS.parts("61 steps", Strands.of(61, 60, 60), 0, 0, 60, -1, 60, 1);
    }

    private static void bars() {
        CHECKS.test("8 a piece ends below a bar", () -> endsAt(4, true));
        CHECKS.test("8 a piece ends at a bar's first place", () -> endsAt(5, false));
        CHECKS.test("8 a piece ends inside a bar", () -> endsAt(6, false));
        CHECKS.test("8 a piece ends at a bar's last place", () -> endsAt(7, false));
        CHECKS.test("8 a piece ends above a bar", () -> endsAt(8, true));
        CHECKS.test("8 a piece begins below a bar", () -> beginsAt(4, true));
        CHECKS.test("8 a piece begins at a bar's first place", () -> beginsAt(5, false));
        CHECKS.test("8 a piece begins inside a bar", () -> beginsAt(6, false));
        CHECKS.test("8 a piece begins at a bar's last place", () -> beginsAt(7, false));
        CHECKS.test("8 a piece begins above a bar", () -> beginsAt(8, true));
        CHECKS.test("8 a bar of one place", PiecesTest::barOfOnePlace);
        CHECKS.test("8 a piece goes over a bar", PiecesTest::overABar);
        CHECKS.test("8 the torch's place is barred", PiecesTest::torchBarred);
        CHECKS.test("8 the torch's place is barred after a cut", PiecesTest::torchBarredAfterCut);
        CHECKS.test("8 a place ahead of the torch is barred", PiecesTest::aheadOfTorchBarred);
        CHECKS.test("8 the place n is barred", PiecesTest::endBarred);
        CHECKS.test("8 the place n is barred and is the end no more", PiecesTest::oldEndBarred);
        CHECKS.test("8 all places are barred", PiecesTest::allBarred);
    }

    // The bad steps leave the piece no other place: it goes from 0 to q alone.
    private static void endsAt(int q, boolean allowed) {
        CutLengths x = Strands.of(12, q, q);
        x.bad(q, 12);
        x.bar(5, 7);
        CHECKS.due("loss()", allowed ? 12 - q : 12, x::loss);
    }

    private static void beginsAt(int p, boolean allowed) {
        CutLengths x = Strands.of(12, 12 - p, 12 - p);
        x.bad(0, p);
        x.bar(5, 7);
        CHECKS.due("loss()", allowed ? p : 12, x::loss);
    }

    private static void barOfOnePlace() {
        CutLengths x = Strands.of(6, 3, 3);
        x.bar(2, 2);
        CHECKS.parts("beside the cut", x, 0, 0, 3, 0, 3, 3);
        x.bar(4, 4);
        CHECKS.parts("on both sides of the cut", x, 0, 0, 3, 0, 3, 3);
        x.bar(3, 3);
        CHECKS.parts("at the cut: from 1 to 4 and from 2 to 5 are barred too", x, -1, 0, 6);
    }

    private static void overABar() {
        CutLengths x = Strands.of(10, 5, 5);
        x.bar(1, 4);
        x.bar(6, 9);
        CHECKS.parts("bars between the cuts", x, 0, 0, 5, 0, 5, 5);
    }

    private static void torchBarred() {
        CutLengths x = Strands.of(4, 3, 3);
        x.bar(0, 0);
        CHECKS.parts("at place 0", x, 0, 0, 3, -1, 3, 1);
    }

    private static void torchBarredAfterCut() {
        CutLengths x = Strands.of(3, 3, 3);
        x.bar(3, 3);
        CHECKS.due("cut()", 0, x::cut);
        x.cast(4);
        CHECKS.parts("at the former end", x, 0, 3, 3, -1, 6, 1);
        CutLengths later = Strands.of(7, 3, 3);
        later.cut();
        later.bar(3, 3);
        CHECKS.parts("barred when the torch was there", later, 0, 3, 3, -1, 6, 1);
    }

    private static void aheadOfTorchBarred() {
        CutLengths x = Strands.of(7, 3, 3);
        x.bar(1, 1);
        x.bad(0, 1);
        CHECKS.parts("where the bad step ends", x, -1, 0, 2, 0, 2, 3, -1, 5, 2);
    }

    private static void endBarred() {
        CutLengths x = Strands.of(6, 3, 3);
        x.bar(6, 6);
        CHECKS.parts("the last piece ends there", x, 0, 0, 3, 0, 3, 3);
    }

    private static void oldEndBarred() {
        CutLengths x = Strands.of(6, 3, 3);
        x.bar(6, 6);
        x.cast(1);
        CHECKS.parts("one step more", x, 0, 0, 3, -1, 3, 1, 0, 4, 3);
        x.bar(7, 7);
        CHECKS.parts("the new end is barred too", x, 0, 0, 3, -1, 3, 1, 0, 4, 3);
    }

    private static void allBarred() {
        CutLengths x = Strands.of(9, 1, 8);
        x.bar(0, 300);
        CHECKS.parts("no piece from the torch to n", x, -1, 0, 9);
        x.span(0, 1, 9);
        CHECKS.parts("one piece from the torch to n", x, 0, 0, 9);
    }

    private static void badAndTrimmed() {
        CHECKS.test("7 the step below a bad part", () -> badLeaves(3, true));
        CHECKS.test("7 a bad part's first step", () -> badLeaves(4, false));
        CHECKS.test("7 a bad part's last step", () -> badLeaves(6, false));
        CHECKS.test("7 the second step told, itself not", () -> badLeaves(7, true));
        CHECKS.test("7 bad parts side by side", PiecesTest::badSideBySide);
        CHECKS.test("7 bad parts over each other", PiecesTest::badOverEachOther);
        CHECKS.test("7 a bad part behind the torch", PiecesTest::badBehindTorch);
        CHECKS.test("7 a bad part beyond n", PiecesTest::badBeyondEnd);
        CHECKS.test("6 the front trim's last step and the next", PiecesTest::frontTrim);
        CHECKS.test("6 the back trim's first step and the one below", PiecesTest::backTrim);
        CHECKS.test("6 a trim beside a bad part", PiecesTest::trimBesideBad);
        CHECKS.test("6 the front trim behind the torch", PiecesTest::frontTrimBehindTorch);
        CHECKS.test("6 the back trim goes with n", PiecesTest::backTrimGoesWithEnd);
    }

    // With pieces of one step each sound step is a part, and the bad ones 4, 5 and 6 together are part 4.
    private static void badLeaves(int step, boolean sound) {
        CutLengths x = Strands.of(12, 1, 1);
        x.bad(4, 7);
        int part = step < 7 ? Math.min(step, 4) : step - 2;
        CHECKS.due("the part of step " + step, sound ? 0 : -1, () -> x.part(part, 0));
        CHECKS.due("its begin", sound ? step : 4, () -> x.part(part, 1));
        CHECKS.due("its steps", sound ? 1 : 3, () -> x.part(part, 2));
    }

    private static void badSideBySide() {
        CutLengths x = Strands.of(10, 1, 60);
        x.bad(3, 5);
        x.bad(5, 6);
        CHECKS.parts("one scrap", x, 0, 0, 3, -1, 3, 3, 0, 6, 4);
    }

    private static void badOverEachOther() {
        CutLengths x = Strands.of(10, 1, 60);
        x.bad(2, 8);
        x.bad(4, 5);
        x.bad(2, 8);
        CHECKS.parts("one scrap", x, 0, 0, 2, -1, 2, 6, 0, 8, 2);
    }

    private static void badBehindTorch() {
        CutLengths x = Strands.of(10, 5, 5);
        x.cut();
        x.bad(0, 5);
        CHECKS.parts("nothing ahead is bad", x, 0, 5, 5);
        CHECKS.slab("what was cut stays", x, 0, 0, 0, 5);
    }

    private static void badBeyondEnd() {
        CutLengths x = Strands.of(10, 1, 60);
        x.bad(10, 12);
        CHECKS.parts("not yet", x, 0, 0, 10);
        x.cast(1);
        CHECKS.parts("its first step", x, 0, 0, 10, -1, 10, 1);
        x.cast(2);
        CHECKS.parts("a step behind it", x, 0, 0, 10, -1, 10, 2, 0, 12, 1);
    }

    private static void frontTrim() {
        CutLengths x = Strands.of(10, 7, 7);
        x.trim(3, 0);
        CHECKS.parts("7 steps are left", x, -1, 0, 3, 0, 3, 7);
        x.trim(4, 0);
        CHECKS.parts("6 steps are left", x, -1, 0, 10);
    }

    private static void backTrim() {
        CutLengths x = Strands.of(10, 7, 7);
        x.trim(0, 3);
        CHECKS.parts("7 steps are left", x, 0, 0, 7, -1, 7, 3);
        x.trim(0, 4);
        CHECKS.parts("6 steps are left", x, -1, 0, 10);
    }

    private static void trimBesideBad() {
        CutLengths x = Strands.of(10, 1, 60);
        x.trim(2, 2);
        x.bad(2, 3);
        x.bad(7, 8);
        CHECKS.parts("scrap side by side is one", x, -1, 0, 3, 0, 3, 4, -1, 7, 3);
    }

    private static void frontTrimBehindTorch() {
        CutLengths x = Strands.of(10, 5, 5);
        x.trim(5, 0);
        x.cut();
        CHECKS.parts("it counts from place 0", x, 0, 5, 5);
        x.trim(6, 0);
        CHECKS.parts("a step ahead of the torch", x, -1, 5, 5);
    }

    private static void backTrimGoesWithEnd() {
        CutLengths x = Strands.of(10, 1, 60);
        x.trim(0, 3);
        x.cut();
        CHECKS.parts("the trim alone", x, -1, 7, 3);
        x.cast(2);
        CHECKS.parts("two steps more", x, 0, 7, 2, -1, 9, 3);
    }

    private static void choice() {
        CHECKS.test("a piece ahead of scrap", PiecesTest::pieceAheadOfScrap);
        CHECKS.test("a piece ahead of scrap from a later place", PiecesTest::pieceAheadOfScrapLater);
        CHECKS.test("the lowest wanted length", PiecesTest::lowestWanted);
        CHECKS.test("of these the longest", PiecesTest::longest);
        CHECKS.test("little scrap ahead of all else", PiecesTest::leastScrapFirst);
        CHECKS.test("a span told anew", PiecesTest::choiceAfterSpan);
    }

    private static void pieceAheadOfScrap() {
        CHECKS.parts("4 of 5", Strands.of(5, 4, 4), 0, 0, 4, -1, 4, 1);
        CHECKS.parts("4 of 7", Strands.of(7, 4, 4), 0, 0, 4, -1, 4, 3);
        CHECKS.parts("of the last length too", Strands.of(5, 6, 6, 4, 4), 1, 0, 4, -1, 4, 1);
    }

    private static void pieceAheadOfScrapLater() {
        CutLengths x = Strands.of(11, 4, 4);
        x.bad(5, 6);
        CHECKS.parts("on both sides of a bad step", x, 0, 0, 4, -1, 4, 2, 0, 6, 4, -1, 10, 1);
    }

    private static void lowestWanted() {
        CHECKS.parts("two alike", Strands.of(4, 4, 4, 4, 4), 0, 0, 4);
        CHECKS.parts("the lower one is shorter", Strands.of(6, 2, 2, 6, 6), 0, 0, 2, 0, 2, 2, 0, 4, 2);
        CHECKS.parts("the lower one is longer", Strands.of(6, 6, 6, 2, 2), 0, 0, 6);
        CHECKS.parts("at each place anew", Strands.of(5, 2, 2, 3, 3), 0, 0, 2, 1, 2, 3);
        CHECKS.parts("the sixth, where it alone fits", Strands.of(4, 9, 9, 9, 9, 9, 9, 9, 9, 9, 9, 4, 4), 5, 0, 4);
    }

    private static void longest() {
        CHECKS.parts("high", Strands.of(12, 3, 6), 0, 0, 6, 0, 6, 6);
        CHECKS.parts("the longest that loses nothing", Strands.of(8, 3, 6), 0, 0, 5, 0, 5, 3);
        CHECKS.parts("low, as nothing longer fits", Strands.of(3, 3, 6), 0, 0, 3);
        CHECKS.parts("the longest, with scrap behind it", Strands.of(20, 9, 9), 0, 0, 9, 0, 9, 9, -1, 18, 2);
        CutLengths barred = Strands.of(12, 3, 6);
        barred.bar(6, 6);
        CHECKS.parts("the longest to a place not barred", barred, 0, 0, 5, 0, 5, 4, 0, 9, 3);
    }

    private static void leastScrapFirst() {
        CHECKS.parts("a higher length", Strands.of(5, 4, 4, 5, 5), 1, 0, 5);
        CHECKS.parts("a shorter piece", Strands.of(8, 4, 5), 0, 0, 4, 0, 4, 4);
        CutLengths x = Strands.of(7, 3, 3);
        x.bar(3, 3);
        CHECKS.parts("scrap ahead of a piece", x, -1, 0, 1, 0, 1, 3, 0, 4, 3);
    }

    private static void choiceAfterSpan() {
        CutLengths x = Strands.of(6, 3, 3, 2, 2);
        CHECKS.parts("threes", x, 0, 0, 3, 0, 3, 3);
        x.span(0, 4, 4);
        CHECKS.parts("the same number, another span", x, 0, 0, 4, 1, 4, 2);
    }

    private static void cutting() {
        CHECKS.test("11 scrap up to the next piece is one slab", PiecesTest::scrapUpToPiece);
        CHECKS.test("11 scrap up to the end is one slab", PiecesTest::scrapUpToEnd);
        CHECKS.test("11 scrap cut, and scrap behind it", PiecesTest::scrapTwice);
        CHECKS.test("11 a whole strand as its plan tells it", PiecesTest::wholeStrand);
    }

    private static void scrapUpToPiece() {
        CutLengths x = Strands.of(12, 5, 5);
        x.trim(2, 0);
        x.bad(3, 4);
        CHECKS.due("cut()", 0, x::cut);
        CHECKS.slab("the trim, a sound step, a bad one", x, 0, -1, 0, 4);
        CHECKS.due("torch()", 4, x::torch);
    }

    private static void scrapUpToEnd() {
        CutLengths x = Strands.of(12, 5, 5);
        x.trim(0, 1);
        Strands.cut(x, 2);
        CHECKS.due("cut()", 2, x::cut);
        CHECKS.slab("sound and trimmed steps", x, 2, -1, 10, 2);
    }

    private static void scrapTwice() {
        CutLengths x = Strands.of(3, 5, 5);
        x.cut();
        x.cast(2);
        x.cut();
        CHECKS.slab("the first", x, 0, -1, 0, 3);
        CHECKS.slab("the second is a slab of its own", x, 1, -1, 3, 2);
        CHECKS.due("count(-1)", 2, () -> x.count(-1));
    }

    private static void wholeStrand() {
        CutLengths plan = Strands.told();
        CutLengths x = Strands.told();
        int parts = 0;
        while (plan.part(parts, 2) != -2) {
            int i = parts;
            CHECKS.due("cut()", i, x::cut);
            CHECKS.slab("part " + i, x, i, plan.part(i, 0), plan.part(i, 1), plan.part(i, 2));
            parts++;
        }
        CHECKS.due("torch()", 40, x::torch);
    }
}
