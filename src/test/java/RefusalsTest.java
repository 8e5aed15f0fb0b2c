import java.util.function.Consumer;
import java.util.function.Supplier;

/**
 * Each call that may be refused: which exception it throws, which one where two checks fail at once, and that it
 * changes nothing that later calls answer.
 */
public final class RefusalsTest {
    private static final int MIN = Integer.MIN_VALUE;
    private static final int MAX = Integer.MAX_VALUE;

    private static final Checks CHECKS = new Checks();

    public static void main(String[] args) {
        changesAreSeen();
        step();
        cast();
        want();
        span();
        trim();
        bad();
        bar();
        part();
        cut();
        slab();
        weight();
        count();
        CHECKS.end();
    }

    // Else 'changes nothing' would say little: whatever a call can change shows in the answers.
    private static void changesAreSeen() {
        seen("nothing", Strands::told, false, x -> { });
        seen("asking", Strands::told, false, x -> x.part(x.loss(), x.torch()));
        seen("the step", Strands::told, true, x -> x.step(252, 333));
        seen("the kilos", Strands::told, true, x -> x.step(251, 334));
        seen("the step of a new object", CutLengths::new, true, x -> x.step(101, 1000));
        seen("a step cast", Strands::told, true, x -> x.cast(1));
        seen("a wanted length", Strands::told, true, x -> x.want(60, 60));
        seen("a low", Strands::told, true, x -> x.span(0, 6, 8));
        seen("a high", Strands::told, true, x -> x.span(1, 4, 5));
        seen("the front trim", Strands::told, true, x -> x.trim(3, 3));
        seen("the back trim", Strands::told, true, x -> x.trim(2, 4));
        seen("the back trim of a new object", CutLengths::new, true, x -> x.trim(0, 1));
        seen("a bad part without a step", Strands::told, true, x -> x.bad(0, 0));
        seen("a bad part beyond the end", Strands::begun, true, x -> x.bad(90, 91));
        seen("a bar behind the torch", Strands::begun, true, x -> x.bar(0, 0));
        seen("a bar beyond the end", Strands::begun, true, x -> x.bar(71, 72));
        seen("a cut", Strands::told, true, CutLengths::cut);
    }

    private static void seen(String change, Supplier<CutLengths> scene, boolean due, Consumer<CutLengths> call) {
        CHECKS.test("the answers show " + change, () -> {
            CutLengths x = scene.get();
            call.accept(x);
            CHECKS.same("they differ", due, !Answers.of(scene.get()).equals(Answers.of(x)));
        });
    }

    private static void step() {
        refused("2 step, range of millimetres", Strands::told, Checks.RANGE, x -> x.step(0, 5));
        refused("2 step, range of millimetres", Strands::told, Checks.RANGE, x -> x.step(65537, 5));
        refused("2 step, range of kilos", Strands::told, Checks.RANGE, x -> x.step(5, 0));
        refused("2 step, range of kilos", Strands::told, Checks.RANGE, x -> x.step(5, 100001));
        refused("2 step, both ranges", CutLengths::new, Checks.RANGE, x -> x.step(MIN, MAX));
        refused("2 step, turn: a piece was cut", Strands::begun, Checks.TURN, x -> x.step(5, 5));
        refused("2 step, turn: the same step again", Strands::begun, Checks.TURN, x -> x.step(251, 333));
        refused("2 step, turn: scrap was cut", RefusalsTest::scrapCut, Checks.TURN, x -> x.step(5, 5));
        refused("2 step, turn: all was cut", Strands::cutUp, Checks.TURN, x -> x.step(5, 5));
        refused("2 step, turn ahead of range", Strands::begun, Checks.TURN, x -> x.step(0, 5));
        refused("2 step, turn ahead of range", Strands::begun, Checks.TURN, x -> x.step(5, 100001));
        refused("2 step, turn ahead of range", Strands::begun, Checks.TURN, x -> x.step(MAX, MIN));
    }

    private static void cast() {
        refused("3 cast, range", CutLengths::new, Checks.RANGE, x -> x.cast(-1));
        refused("3 cast, range", Strands::told, Checks.RANGE, x -> x.cast(-1));
        refused("3 cast, range: back to the torch", Strands::begun, Checks.RANGE, x -> x.cast(-30));
        refused("3 cast, range", Strands::told, Checks.RANGE, x -> x.cast(MIN));
        refused("3 cast, range on a full strand", Strands::threeHundredLong, Checks.RANGE, x -> x.cast(-1));
        refused("3 cast, range on a full strand", Strands::threeHundredLong, Checks.RANGE, x -> x.cast(MIN));
        refused("3 cast, meaning", CutLengths::new, Checks.MEANING, x -> x.cast(301));
        refused("3 cast, meaning", Strands::told, Checks.MEANING, x -> x.cast(261));
        refused("3 cast, meaning: what was cut counts too", Strands::cutUp, Checks.MEANING, x -> x.cast(261));
        refused("3 cast, meaning", Strands::told, Checks.MEANING, x -> x.cast(MAX));
        refused("3 cast, meaning on a full strand", Strands::threeHundredLong, Checks.MEANING, x -> x.cast(1));
    }

    private static void want() {
        refused("4 want, range of low", Strands::told, Checks.RANGE, x -> x.want(0, 5));
        refused("4 want, range of high", Strands::told, Checks.RANGE, x -> x.want(5, 61));
        refused("4 want, low above high", Strands::told, Checks.RANGE, x -> x.want(6, 5));
        refused("4 want, all of these", Strands::told, Checks.RANGE, x -> x.want(MAX, MIN));
        refused("4 want, range on a new object", CutLengths::new, Checks.RANGE, x -> x.want(0, 0));
        refused("4 want, turn", Strands::withSixWanted, Checks.TURN, x -> x.want(1, 1));
        refused("4 want, turn: the same span again", Strands::withSixWanted, Checks.TURN, x -> x.want(9, 9));
        refused("4 want, turn ahead of range", Strands::withSixWanted, Checks.TURN, x -> x.want(0, 5));
        refused("4 want, turn ahead of range", Strands::withSixWanted, Checks.TURN, x -> x.want(5, 61));
        refused("4 want, turn ahead of range", Strands::withSixWanted, Checks.TURN, x -> x.want(6, 5));
        refused("4 want, turn ahead of range", Strands::withSixWanted, Checks.TURN, x -> x.want(MAX, MIN));
    }

    private static void span() {
        refused("5 span, range of low", Strands::told, Checks.RANGE, x -> x.span(0, 0, 5));
        refused("5 span, range of high", Strands::told, Checks.RANGE, x -> x.span(1, 2, 61));
        refused("5 span, low above high", Strands::begun, Checks.RANGE, x -> x.span(1, 6, 5));
        refused("5 span, all of these", Strands::begun, Checks.RANGE, x -> x.span(0, MAX, MIN));
        refused("5 span, index below", Strands::told, Checks.INDEX, x -> x.span(-1, 2, 3));
        refused("5 span, index above", Strands::told, Checks.INDEX, x -> x.span(2, 2, 3));
        refused("5 span, index of a new object", CutLengths::new, Checks.INDEX, x -> x.span(0, 1, 1));
        refused("5 span, index of six", Strands::withSixWanted, Checks.INDEX, x -> x.span(6, 1, 1));
        refused("5 span, index ahead of range", Strands::told, Checks.INDEX, x -> x.span(-1, 0, 5));
        refused("5 span, index ahead of range", Strands::told, Checks.INDEX, x -> x.span(2, 5, 61));
        refused("5 span, index ahead of range", Strands::told, Checks.INDEX, x -> x.span(2, 6, 5));
        refused("5 span, index ahead of range", Strands::told, Checks.INDEX, x -> x.span(MAX, MIN, MIN));
        refused("5 span, index ahead of range", Strands::withSixWanted, Checks.INDEX, x -> x.span(6, 0, 0));
    }

    private static void trim() {
        refused("6 trim, range of front", Strands::told, Checks.RANGE, x -> x.trim(-1, 9));
        refused("6 trim, range of front", Strands::told, Checks.RANGE, x -> x.trim(301, 9));
        refused("6 trim, range of back", Strands::told, Checks.RANGE, x -> x.trim(9, -1));
        refused("6 trim, range of back", Strands::begun, Checks.RANGE, x -> x.trim(30, 301));
        refused("6 trim, both ranges", Strands::begun, Checks.RANGE, x -> x.trim(MIN, MAX));
        refused("6 trim, both ranges", CutLengths::new, Checks.RANGE, x -> x.trim(301, -1));
    }

    private static void bad() {
        refused("7 bad, range of the first", Strands::told, Checks.RANGE, x -> x.bad(-1, 9));
        refused("7 bad, range of the second", Strands::told, Checks.RANGE, x -> x.bad(9, 301));
        refused("7 bad, range of both", Strands::told, Checks.RANGE, x -> x.bad(301, 302));
        refused("7 bad, the second below the first", Strands::begun, Checks.RANGE, x -> x.bad(31, 30));
        refused("7 bad, all of these", Strands::begun, Checks.RANGE, x -> x.bad(MAX, MIN));
        refused("7 bad, range on a new object", CutLengths::new, Checks.RANGE, x -> x.bad(-1, 301));
        refused("7 bad, turn", Strands::withTwentyBadParts, Checks.TURN, x -> x.bad(41, 42));
        refused("7 bad, turn: without a step", Strands::withTwentyBadParts, Checks.TURN, x -> x.bad(0, 0));
        refused("7 bad, turn ahead of range", Strands::withTwentyBadParts, Checks.TURN, x -> x.bad(-1, 9));
        refused("7 bad, turn ahead of range", Strands::withTwentyBadParts, Checks.TURN, x -> x.bad(9, 301));
        refused("7 bad, turn ahead of range", Strands::withTwentyBadParts, Checks.TURN, x -> x.bad(43, 42));
        refused("7 bad, turn ahead of range", Strands::withTwentyBadParts, Checks.TURN, x -> x.bad(MAX, MIN));
    }

    private static void bar() {
        refused("8 bar, range of the first", Strands::told, Checks.RANGE, x -> x.bar(-1, 9));
        refused("8 bar, range of the second", Strands::told, Checks.RANGE, x -> x.bar(9, 301));
        refused("8 bar, range of both", Strands::told, Checks.RANGE, x -> x.bar(301, 302));
        refused("8 bar, the second below the first", Strands::begun, Checks.RANGE, x -> x.bar(31, 30));
        refused("8 bar, all of these", Strands::begun, Checks.RANGE, x -> x.bar(MAX, MIN));
        refused("8 bar, range on a new object", CutLengths::new, Checks.RANGE, x -> x.bar(-1, 301));
        refused("8 bar, turn", Strands::withTwentyBars, Checks.TURN, x -> x.bar(41, 42));
        refused("8 bar, turn: barred already", Strands::withTwentyBars, Checks.TURN, x -> x.bar(2, 2));
        refused("8 bar, turn ahead of range", Strands::withTwentyBars, Checks.TURN, x -> x.bar(-1, 9));
        refused("8 bar, turn ahead of range", Strands::withTwentyBars, Checks.TURN, x -> x.bar(9, 301));
        refused("8 bar, turn ahead of range", Strands::withTwentyBars, Checks.TURN, x -> x.bar(43, 42));
        refused("8 bar, turn ahead of range", Strands::withTwentyBars, Checks.TURN, x -> x.bar(MAX, MIN));
    }

    private static void part() {
        refused("10 part, index below", Strands::told, Checks.INDEX, x -> x.part(-1, 0));
        refused("10 part, no such what", Strands::told, Checks.INDEX, x -> x.part(0, 3));
        refused("10 part, no such what", Strands::begun, Checks.INDEX, x -> x.part(0, -1));
        refused("10 part, no such what beyond the plan", Strands::begun, Checks.INDEX, x -> x.part(300, 3));
        refused("10 part, both", Strands::begun, Checks.INDEX, x -> x.part(-1, 3));
        refused("10 part, both", Strands::begun, Checks.INDEX, x -> x.part(MIN, MAX));
        refused("10 part, of a new object", CutLengths::new, Checks.INDEX, x -> x.part(-1, 0));
        refused("10 part, of a new object", CutLengths::new, Checks.INDEX, x -> x.part(0, 3));
    }

    private static void cut() {
        refused("11 cut, turn: nothing was cast", CutLengths::new, Checks.TURN, CutLengths::cut);
        refused("11 cut, turn: all was cut", Strands::cutUp, Checks.TURN, CutLengths::cut);
        refused("11 cut, meaning: a step ahead", () -> Strands.withHundredSlabs(1), Checks.MEANING, CutLengths::cut);
        refused("11 cut, meaning: more ahead", () -> Strands.withHundredSlabs(9), Checks.MEANING, CutLengths::cut);
        refused("11 cut, meaning: scrap ahead", RefusalsTest::hundredAndScrap, Checks.MEANING, CutLengths::cut);
        refused("11 cut, turn ahead of meaning", () -> Strands.withHundredSlabs(0), Checks.TURN, CutLengths::cut);
    }

    private static void slab() {
        refused("12 slab, none there", CutLengths::new, Checks.INDEX, x -> x.slab(0, 0));
        refused("12 slab, none cut", Strands::told, Checks.INDEX, x -> x.slab(0, 0));
        refused("12 slab, index below", Strands::begun, Checks.INDEX, x -> x.slab(-1, 0));
        refused("12 slab, index above", Strands::begun, Checks.INDEX, x -> x.slab(2, 0));
        refused("12 slab, no such what", Strands::begun, Checks.INDEX, x -> x.slab(1, 3));
        refused("12 slab, no such what", Strands::begun, Checks.INDEX, x -> x.slab(1, -1));
        refused("12 slab, both", Strands::begun, Checks.INDEX, x -> x.slab(MIN, MAX));
        refused("12 slab, of a hundred", () -> Strands.withHundredSlabs(1), Checks.INDEX, x -> x.slab(100, 0));
    }

    private static void weight() {
        refused("13 weight, none there", CutLengths::new, Checks.INDEX, x -> x.weight(0));
        refused("13 weight, none cut", Strands::told, Checks.INDEX, x -> x.weight(0));
        refused("13 weight, index below", Strands::begun, Checks.INDEX, x -> x.weight(-1));
        refused("13 weight, index above", Strands::begun, Checks.INDEX, x -> x.weight(2));
        refused("13 weight, of a hundred", () -> Strands.withHundredSlabs(1), Checks.INDEX, x -> x.weight(100));
    }

    private static void count() {
        refused("14 count, nothing wanted", CutLengths::new, Checks.INDEX, x -> x.count(0));
        refused("14 count, index below", Strands::begun, Checks.INDEX, x -> x.count(-2));
        refused("14 count, index above", Strands::begun, Checks.INDEX, x -> x.count(2));
        refused("14 count, index above six", Strands::withSixWanted, Checks.INDEX, x -> x.count(6));
    }

    private static CutLengths scrapCut() {
        CutLengths x = Strands.told();
        x.cut();
        CHECKS.due("what was cut is scrap", -1, () -> x.slab(0, 0));
        return x;
    }

    private static CutLengths hundredAndScrap() {
        CutLengths x = Strands.withHundredSlabs(9);
        x.bad(100, 105);
        return x;
    }

    // Once with the plan asked for ahead of the call and once not: neither way may the call touch it.
    private static void refused(String name, Supplier<CutLengths> scene, Class<? extends RuntimeException> due,
            Consumer<CutLengths> call) {
        CHECKS.test(name, () -> {
            String answers = Answers.of(scene.get());
            CutLengths plain = scene.get();
            CHECKS.refused("the call", due, () -> call.accept(plain));
            CHECKS.same("the answers after it", answers, Answers.of(plain));
            CutLengths planned = scene.get();
            planned.loss();
            CHECKS.refused("the call with a plan", due, () -> call.accept(planned));
            CHECKS.refused("the call again", due, () -> call.accept(planned));
            CHECKS.same("the answers after these", answers, Answers.of(planned));
        });
    }
}
