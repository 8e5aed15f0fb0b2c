/** What is empty and what is full. */
public final class EmptyAndFullTest {
    private static final Checks CHECKS = new Checks();

    public static void main(String[] args) {
        empty();
        covered();
        full();
        CHECKS.end();
    }

    private static void empty() {
        CHECKS.test("1 a new object, asked", EmptyAndFullTest::newObjectAsked);
        CHECKS.test("1 a new object, told", EmptyAndFullTest::newObjectTold);
        CHECKS.test("1 two new objects", EmptyAndFullTest::twoNewObjects);
        CHECKS.test("no step was cast, all else told", EmptyAndFullTest::nothingCast);
        CHECKS.test("no step ahead of the torch", EmptyAndFullTest::nothingAhead);
        CHECKS.test("no step ahead, told what is ahead", EmptyAndFullTest::nothingAheadTold);
        CHECKS.test("one step ahead of the torch", EmptyAndFullTest::oneStepAhead);
        CHECKS.test("no wanted length", EmptyAndFullTest::nothingWanted);
        CHECKS.test("no wanted length that fits", EmptyAndFullTest::nothingFits);
        CHECKS.test("7 a bad part without a step", EmptyAndFullTest::emptyBadPart);
        CHECKS.test("7 a bad part without a step counts", EmptyAndFullTest::emptyBadPartsCount);
    }

    private static void newObjectAsked() {
        CutLengths x = new CutLengths();
        CHECKS.due("torch()", 0, x::torch);
        CHECKS.due("loss()", 0, x::loss);
        CHECKS.parts("the plan", x);
        CHECKS.due("part(MAX, 0)", -2, () -> x.part(Integer.MAX_VALUE, 0));
        CHECKS.due("count(-1)", 0, () -> x.count(-1));
        CHECKS.refused("count(0)", Checks.INDEX, () -> x.count(0));
        CHECKS.refused("slab(0, 0)", Checks.INDEX, () -> x.slab(0, 0));
        CHECKS.refused("weight(0)", Checks.INDEX, () -> x.weight(0));
        CHECKS.refused("cut()", Checks.TURN, x::cut);
        CHECKS.due("cast(0)", 0, () -> x.cast(0));
    }

    private static void newObjectTold() {
        CHECKS.due("the first wanted length", 0, () -> new CutLengths().want(1, 1));
        CHECKS.due("the first bad part", 1, () -> new CutLengths().bad(0, 1));
        CHECKS.due("the first bar", 1, () -> new CutLengths().bar(0, 1));
        CHECKS.due("the first steps", 5, () -> new CutLengths().cast(5));
        CHECKS.accepted("trims", () -> new CutLengths().trim(300, 300));
        CHECKS.accepted("a step", () -> new CutLengths().step(1, 1));
        CHECKS.refused("a span", Checks.INDEX, () -> new CutLengths().span(0, 1, 1));
    }

    private static void twoNewObjects() {
        CutLengths one = Strands.cutUp();
        CutLengths other = new CutLengths();
        CHECKS.same("the answers of the other", Answers.of(new CutLengths()), Answers.of(other));
        CHECKS.due("torch of the one", 40, one::torch);
    }

    private static void nothingCast() {
        CutLengths x = Strands.of(0, 1, 60);
        x.trim(3, 3);
        x.bad(0, 5);
        x.bar(0, 5);
        CHECKS.due("loss()", 0, x::loss);
        CHECKS.parts("the plan", x);
        CHECKS.refused("cut()", Checks.TURN, x::cut);
        x.cast(12);
        CHECKS.parts("told before it was cast", x, -1, 0, 6, 0, 6, 3, -1, 9, 3);
    }

    private static void nothingAhead() {
        CutLengths x = Strands.of(6, 3, 3);
        Strands.cut(x, 2);
        CHECKS.due("torch()", 6, x::torch);
        CHECKS.due("loss()", 0, x::loss);
        CHECKS.parts("the plan", x);
        CHECKS.due("cast(0)", 6, () -> x.cast(0));
        CHECKS.refused("cut()", Checks.TURN, x::cut);
        CHECKS.due("count(0)", 2, () -> x.count(0));
        CHECKS.due("count(-1)", 0, () -> x.count(-1));
    }

    private static void nothingAheadTold() {
        CutLengths x = Strands.of(6, 3, 3);
        Strands.cut(x, 2);
        x.bad(0, 7);
        x.bar(0, 6);
        x.trim(6, 1);
        CHECKS.due("want(2, 2)", 1, () -> x.want(2, 2));
        CHECKS.due("loss()", 0, x::loss);
        CHECKS.parts("the plan", x);
        CHECKS.refused("cut()", Checks.TURN, x::cut);
        CHECKS.slab("what was cut stays", x, 1, 0, 3, 3);
        x.cast(5);
        CHECKS.parts("what is cast now", x, -1, 6, 1, 0, 7, 3, -1, 10, 1);
    }

    private static void oneStepAhead() {
        CutLengths x = Strands.of(1);
        CHECKS.parts("as scrap", x, -1, 0, 1);
        x.want(1, 1);
        CHECKS.parts("as a piece", x, 0, 0, 1);
        x.bar(0, 1);
        CHECKS.parts("with torch and end barred", x, 0, 0, 1);
        x.bad(0, 1);
        CHECKS.parts("bad", x, -1, 0, 1);
        CHECKS.due("cut()", 0, x::cut);
        CHECKS.due("torch()", 1, x::torch);
    }

    private static void nothingWanted() {
        CutLengths x = Strands.of(30);
        x.trim(2, 3);
        x.bad(10, 12);
        x.bar(20, 20);
        CHECKS.due("loss()", 30, x::loss);
        CHECKS.parts("all scrap is one", x, -1, 0, 30);
        CHECKS.due("cut()", 0, x::cut);
        CHECKS.slab("scrap", x, 0, -1, 0, 30);
        CHECKS.due("count(-1)", 1, () -> x.count(-1));
        CHECKS.refused("count(0)", Checks.INDEX, () -> x.count(0));
    }

    private static void nothingFits() {
        CutLengths x = Strands.of(30, 31, 60);
        CHECKS.parts("all scrap is one", x, -1, 0, 30);
        x.cast(1);
        CHECKS.parts("one step more", x, 0, 0, 31);
    }

    private static void emptyBadPart() {
        for (int step : new int[] {0, 1, 5, 9, 10, 11, 300}) {
            CutLengths x = Strands.of(10, 10, 10);
            CHECKS.due("bad(" + step + ", " + step + ")", 1, () -> x.bad(step, step));
            CHECKS.parts("bad(" + step + ", " + step + ")", x, 0, 0, 10);
        }
    }

    private static void emptyBadPartsCount() {
        CutLengths x = Strands.of(10, 10, 10);
        for (int i = 1; i <= 20; i++) {
            CHECKS.due("bad(5, 5)", i, () -> x.bad(5, 5));
        }
        CHECKS.refused("bad(5, 5), a 21st", Checks.TURN, () -> x.bad(5, 5));
        CHECKS.parts("the plan", x, 0, 0, 10);
    }

    private static void covered() {
        CHECKS.test("6 the front trim covers all", () -> covers(10, 0));
        CHECKS.test("6 the front trim goes beyond", () -> covers(11, 0));
        CHECKS.test("6 the front trim goes far beyond", () -> covers(300, 0));
        CHECKS.test("6 the back trim covers all", () -> covers(0, 10));
        CHECKS.test("6 the back trim goes beyond", () -> covers(0, 11));
        CHECKS.test("6 the back trim goes far beyond", () -> covers(0, 300));
        CHECKS.test("6 the trims meet", () -> covers(6, 4));
        CHECKS.test("6 the trims overlap", () -> covers(6, 5));
        CHECKS.test("6 both trims cover all", () -> covers(10, 10));
        CHECKS.test("6 both trims go far beyond", () -> covers(300, 300));
        CHECKS.test("6 the front trim leaves the last step", () -> leaves(9, 0, 9));
        CHECKS.test("6 the back trim leaves the first step", () -> leaves(0, 9, 0));
        CHECKS.test("6 the trims leave one step", () -> leaves(5, 4, 5));
        CHECKS.test("6 covered as long as the strand is short", EmptyAndFullTest::coveredUntilCast);
        CHECKS.test("6 covered ahead of the torch", EmptyAndFullTest::coveredAhead);
    }

    private static void covers(int front, int back) {
        CutLengths x = Strands.of(10, 1, 60);
        x.trim(front, back);
        CHECKS.due("loss()", 10, x::loss);
        CHECKS.parts("all scrap is one", x, -1, 0, 10);
        CHECKS.due("cut()", 0, x::cut);
        CHECKS.slab("scrap", x, 0, -1, 0, 10);
        CHECKS.due("torch()", 10, x::torch);
    }

    private static void leaves(int front, int back, int step) {
        CutLengths x = Strands.of(10, 1, 60);
        x.trim(front, back);
        CHECKS.due("loss()", 9, x::loss);
        int part = step == 0 ? 0 : 1;
        CHECKS.due("the piece", 0, () -> x.part(part, 0));
        CHECKS.due("its begin", step, () -> x.part(part, 1));
        CHECKS.due("its steps", 1, () -> x.part(part, 2));
    }

    private static void coveredUntilCast() {
        CutLengths x = Strands.of(10, 1, 60);
        x.trim(6, 4);
        x.cast(1);
        CHECKS.parts("a step more", x, -1, 0, 6, 0, 6, 1, -1, 7, 4);
    }

    private static void coveredAhead() {
        CutLengths x = Strands.of(10, 1, 3);
        Strands.cut(x, 1);
        x.trim(0, 8);
        CHECKS.parts("the back trim goes behind the torch", x, -1, 3, 7);
        x.trim(10, 0);
        CHECKS.parts("the front trim goes to the end", x, -1, 3, 7);
        x.trim(3, 0);
        CHECKS.parts("the front trim goes to the torch", x, 0, 3, 3, 0, 6, 3, 0, 9, 1);
    }

    private static void full() {
        CHECKS.test("300 steps as one scrap", EmptyAndFullTest::scrapOf300);
        CHECKS.test("300 steps in the longest pieces", EmptyAndFullTest::longestPiecesOf300);
        CHECKS.test("300 steps in the shortest pieces", EmptyAndFullTest::shortestPiecesOf300);
        CHECKS.test("300 steps, more are cast", EmptyAndFullTest::moreThan300);
        CHECKS.test("6 wanted lengths", EmptyAndFullTest::sixWanted);
        CHECKS.test("20 bad parts", EmptyAndFullTest::twentyBadParts);
        CHECKS.test("20 bars", EmptyAndFullTest::twentyBars);
        CHECKS.test("100 slabs", EmptyAndFullTest::hundredSlabs);
        CHECKS.test("100 slabs, the plan goes on", EmptyAndFullTest::planBehindHundredSlabs);
        CHECKS.test("all of it full", EmptyAndFullTest::allFull);
    }

    private static void scrapOf300() {
        CutLengths x = Strands.of(300);
        CHECKS.due("loss()", 300, x::loss);
        CHECKS.parts("one part", x, -1, 0, 300);
        CHECKS.due("cut()", 0, x::cut);
        CHECKS.slab("one slab", x, 0, -1, 0, 300);
        CHECKS.due("torch()", 300, x::torch);
        CHECKS.refused("cut()", Checks.TURN, x::cut);
    }

    private static void longestPiecesOf300() {
        CutLengths x = Strands.of(300, 1, 60);
        CHECKS.due("loss()", 0, x::loss);
        CHECKS.parts("five", x, 0, 0, 60, 0, 60, 60, 0, 120, 60, 0, 180, 60, 0, 240, 60);
    }

    private static void shortestPiecesOf300() {
        CutLengths x = Strands.of(300, 1, 1);
        CHECKS.due("loss()", 0, x::loss);
        CHECKS.due("part(299, 1)", 299, () -> x.part(299, 1));
        CHECKS.due("part(300, 1)", -2, () -> x.part(300, 1));
    }

    private static void moreThan300() {
        CutLengths x = Strands.of(300, 60, 60);
        CHECKS.refused("cast(1)", Checks.MEANING, () -> x.cast(1));
        Strands.cut(x, 5);
        CHECKS.due("torch()", 300, x::torch);
        CHECKS.refused("cast(1), all cut", Checks.MEANING, () -> x.cast(1));
        CHECKS.due("cast(0), all cut", 300, () -> x.cast(0));
    }

    // Between bad steps lie 9, 8, 7, 6, 5 and 4: each of the six fills one of them best.
    private static void sixWanted() {
        CutLengths x = Strands.of(44, 9, 9, 8, 8, 7, 7, 6, 6, 5, 5, 4, 4);
        for (int step : new int[] {9, 18, 26, 33, 39}) {
            x.bad(step, step + 1);
        }
        CHECKS.parts("one piece of each", x, 0, 0, 9, -1, 9, 1, 1, 10, 8, -1, 18, 1, 2, 19, 7, -1, 26, 1,
            3, 27, 6, -1, 33, 1, 4, 34, 5, -1, 39, 1, 5, 40, 4);
        Strands.cut(x, 11);
        for (int i = 0; i < 6; i++) {
            int wanted = i;
            CHECKS.due("count(" + i + ")", 1, () -> x.count(wanted));
        }
        CHECKS.due("count(-1)", 5, () -> x.count(-1));
        CHECKS.refused("count(6)", Checks.INDEX, () -> x.count(6));
        CHECKS.refused("want(1, 1)", Checks.TURN, () -> x.want(1, 1));
        CHECKS.accepted("span(5, 1, 1)", () -> x.span(5, 1, 1));
    }

    private static void twentyBadParts() {
        CutLengths x = Strands.withTwentyBadParts();
        CHECKS.due("loss()", 20, x::loss);
        CHECKS.due("the last takes hold", -1, () -> x.part(38, 0));
        CHECKS.due("the last takes hold", 38, () -> x.part(38, 1));
        CHECKS.due("what is behind it", 6, () -> x.part(39, 2));
        CHECKS.refused("a 21st", Checks.TURN, () -> x.bad(40, 45));
        CHECKS.due("loss() as before", 20, x::loss);
        CHECKS.due("bars are counted apart", 1, () -> x.bar(0, 0));
    }

    // With places 1 to i barred, no piece of one step begins or ends there.
    private static void twentyBars() {
        CutLengths x = Strands.of(30, 1, 1);
        for (int i = 1; i <= 20; i++) {
            int place = i;
            CHECKS.due("bar", i, () -> x.bar(place, place));
            CHECKS.due("it takes hold", i + 1, x::loss);
        }
        CHECKS.refused("a 21st", Checks.TURN, () -> x.bar(21, 21));
        CHECKS.due("loss() as before", 21, x::loss);
        CHECKS.due("bad parts are counted apart", 1, () -> x.bad(0, 0));
    }

    private static void hundredSlabs() {
        CutLengths x = Strands.withHundredSlabs(1);
        CHECKS.due("torch()", 100, x::torch);
        CHECKS.due("count(0)", 100, () -> x.count(0));
        CHECKS.due("count(-1)", 0, () -> x.count(-1));
        CHECKS.slab("the first", x, 0, 0, 0, 1);
        CHECKS.slab("the last", x, 99, 0, 99, 1);
        CHECKS.due("weight(99)", 100, () -> x.weight(99));
        CHECKS.refused("slab(100, 0)", Checks.INDEX, () -> x.slab(100, 0));
        CHECKS.refused("weight(100)", Checks.INDEX, () -> x.weight(100));
        CHECKS.refused("cut()", Checks.MEANING, x::cut);
    }

    private static void planBehindHundredSlabs() {
        CutLengths x = Strands.withHundredSlabs(2);
        CHECKS.parts("two steps ahead", x, 0, 100, 1, 0, 101, 1);
        x.bad(100, 101);
        CHECKS.due("loss()", 1, x::loss);
        x.cast(198);
        CHECKS.due("part(199, 1)", 299, () -> x.part(198 + 1, 1));
        CHECKS.refused("cut()", Checks.MEANING, x::cut);
        CHECKS.slab("the last", x, 99, 0, 99, 1);
    }

    private static void allFull() {
        CutLengths x = Strands.of(300, 1, 1, 2, 2, 3, 3, 4, 4, 5, 5, 6, 6);
        for (int i = 1; i <= 20; i++) {
            x.bad(200 + i, 201 + i);
            x.bar(250 + i, 250 + i);
        }
        Strands.cut(x, 100);
        CHECKS.refused("cast(1)", Checks.MEANING, () -> x.cast(1));
        CHECKS.refused("want(1, 1)", Checks.TURN, () -> x.want(1, 1));
        CHECKS.refused("bad(0, 1)", Checks.TURN, () -> x.bad(0, 1));
        CHECKS.refused("bar(0, 1)", Checks.TURN, () -> x.bar(0, 1));
        CHECKS.refused("cut()", Checks.MEANING, x::cut);
        CHECKS.refused("step(1, 1)", Checks.TURN, () -> x.step(1, 1));
        CHECKS.due("loss(): 20 bad steps, and 21 from place 250 over the bars", 41, x::loss);
        x.trim(300, 0);
        CHECKS.due("loss(): all ahead", 200, x::loss);
    }
}
