import java.util.function.LongSupplier;

/**
 * What an object answers from now on, as one text: two objects in the same state have the same text. The object
 * is used up by it.
 */
final class Answers {
    private static final int LONGEST = 300;
    private static final int MOST_PARTS = 16;
    // The document promises nothing after the 512th call, and some hundred of them made the object.
    private static final int MOST_CALLS = 390;

    private final CutLengths x;
    private final StringBuilder text = new StringBuilder();
    private int calls = 0;

    private Answers(CutLengths x) {
        this.x = x;
    }

    static String of(CutLengths x) {
        Answers answers = new Answers(x);
        answers.asked();
        answers.cutUp();
        answers.slabs();
        answers.castOn();
        answers.toldOn();
        if (answers.calls > MOST_CALLS) {
            throw new IllegalStateException("too many calls on one object");
        }
        return answers.text.toString();
    }

    private void asked() {
        answer("torch", x::torch);
        plan();
        for (int wanted = -1; wanted <= 6; wanted++) {
            int asked = wanted;
            answer("count " + wanted, () -> x.count(asked));
        }
    }

    private void plan() {
        answer("loss", x::loss);
        for (int i = 0; i < MOST_PARTS; i++) {
            int part = i;
            if (answer("steps", () -> x.part(part, 2)) == -2) {
                return;
            }
            answer("wanted", () -> x.part(part, 0));
            answer("begin", () -> x.part(part, 1));
        }
    }

    private void cutUp() {
        for (int i = 0; i < LONGEST; i++) {
            if (answer("cut", x::cut) < 0) {
                return;
            }
        }
    }

    // The weights tell the step and the kilos. With them one answer of each slab: all three would be too many calls.
    private void slabs() {
        for (int i = 0; i < LONGEST; i++) {
            int slab = i;
            if (answer("weight", () -> x.weight(slab)) < 0) {
                return;
            }
            answer("slab", () -> x.slab(slab, slab % 3));
        }
    }

    // What was told beyond the end, or while nothing was wanted, takes hold only now.
    private void castOn() {
        long n = answer("n", () -> x.cast(0));
        answer("cast", () -> x.cast((int) (LONGEST - n)));
        plan();
        answer("want", () -> x.want(1, 1));
        plan();
        long slab = answer("cut", x::cut);
        answer("weight", () -> x.weight((int) slab));
    }

    private void toldOn() {
        answer("bad", () -> x.bad(0, 0));
        answer("bar", () -> x.bar(0, 0));
    }

    private long answer(String name, LongSupplier call) {
        calls++;
        long value = Long.MIN_VALUE;
        String told;
        try {
            value = call.getAsLong();
            told = Long.toString(value);
        } catch (RuntimeException e) {
            told = "throws." + e.getClass().getSimpleName();
        }
        text.append(name).append(' ').append(told).append("; ");
        return value;
    }
}
