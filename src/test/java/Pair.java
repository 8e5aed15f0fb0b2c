import java.util.function.LongSupplier;

/** An object of the class and one of the model, told and asked the same: every answer must be the same. */
final class Pair {
    /** So many calls on one object have answers that the document promises. */
    static final int MOST_CALLS = 512;

    private final Checks checks;
    private final String name;
    private final CutLengths real = new CutLengths();
    private final Model model = new Model();
    private int calls = 0;

    Pair(Checks checks, String name) {
        this.checks = checks;
        this.name = name;
    }

    /** A call without an answer answers 0, a refused one null. */
    Long both(String call, int... arguments) {
        if (calls >= MOST_CALLS) {
            throw new IllegalStateException("too many calls on one object");
        }
        String text = name + ", call " + calls + ": " + text(call, arguments);
        calls++;
        LongSupplier onReal = () -> onReal(call, arguments);
        long due;
        try {
            due = onModel(call, arguments);
        } catch (RuntimeException e) {
            checks.refused(text, e.getClass(), onReal::getAsLong);
            return null;
        }
        checks.due(text, due, onReal);
        return due;
    }

    /** Asks for the loss and all parts of the plan. */
    void askPlan() {
        both("loss");
        for (int i = 0; both("part", i, 0) != -2; i++) {
            both("part", i, 1);
            both("part", i, 2);
        }
    }

    int callsLeft() {
        return MOST_CALLS - calls;
    }

    /** For what a test asks of the model alone: no call on the object. */
    Model model() {
        return model;
    }

    private static String text(String call, int[] arguments) {
        StringBuilder text = new StringBuilder(call).append('(');
        for (int i = 0; i < arguments.length; i++) {
            text.append(i == 0 ? "" : ", ").append(arguments[i]);
        }
        return text.append(')').toString();
    }

    private long onModel(String call, int[] a) {
        switch (call) {
            case "step": return model.step(a[0], a[1]);
            case "cast": return model.cast(a[0]);
            case "want": return model.want(a[0], a[1]);
            case "span": return model.span(a[0], a[1], a[2]);
            case "trim": return model.trim(a[0], a[1]);
            case "bad": return model.bad(a[0], a[1]);
            case "bar": return model.bar(a[0], a[1]);
            case "loss": return model.loss();
            case "part": return model.part(a[0], a[1]);
            case "cut": return model.cut();
            case "slab": return model.slab(a[0], a[1]);
            case "weight": return model.weight(a[0]);
            case "count": return model.count(a[0]);
            case "torch": return model.torch();
            default: throw new AssertionError(call);
        }
    }

    private long onReal(String call, int[] a) {
        switch (call) {
            case "step":
                real.step(a[0], a[1]);
                return 0;
            case "span":
                real.span(a[0], a[1], a[2]);
                return 0;
            case "trim":
                real.trim(a[0], a[1]);
                return 0;
            case "cast": return real.cast(a[0]);
            case "want": return real.want(a[0], a[1]);
            case "bad": return real.bad(a[0], a[1]);
            case "bar": return real.bar(a[0], a[1]);
            case "loss": return real.loss();
            case "part": return real.part(a[0], a[1]);
            case "cut": return real.cut();
            case "slab": return real.slab(a[0], a[1]);
            case "weight": return real.weight(a[0]);
            case "count": return real.count(a[0]);
            case "torch": return real.torch();
            default: throw new AssertionError(call);
        }
    }
}
