import java.util.function.LongSupplier;

/** Counts and prints the calls whose answers are not the ones that are due. */
final class Checks {
    static final Class<IllegalStateException> TURN = IllegalStateException.class;
    static final Class<IllegalArgumentException> RANGE = IllegalArgumentException.class;
    static final Class<IndexOutOfBoundsException> INDEX = IndexOutOfBoundsException.class;
    static final Class<UnsupportedOperationException> MEANING = UnsupportedOperationException.class;

    private int wrong = 0;
    private int made = 0;
    private String test = "";

    // A test that makes no check or ends before its last one must not pass.
    void test(String name, Runnable body) {
        test = name + ": ";
        int madeBefore = made;
        try {
            body.run();
        } catch (RuntimeException e) {
            tell("a call that prepares", "throws." + e.getClass().getSimpleName(), "no exception");
        }
        if (made == madeBefore) {
            tell("the test", "nothing", "a check");
        }
        test = "";
    }

    void due(String call, long due, LongSupplier answer) {
        made++;
        String got;
        try {
            long value = answer.getAsLong();
            if (value == due) {
                return;
            }
            got = Long.toString(value);
        } catch (RuntimeException e) {
            got = "throws." + e.getClass().getSimpleName();
        }
        tell(call, got, Long.toString(due));
    }

    // The very class is asked for, so that what the machine throws never passes for what the document names.
    void refused(String call, Class<? extends RuntimeException> due, Runnable action) {
        made++;
        String got = "nothing thrown";
        try {
            action.run();
        } catch (RuntimeException e) {
            if (e.getClass() == due) {
                return;
            }
            got = "throws." + e.getClass().getSimpleName();
        }
        tell(call, got, "throws." + due.getSimpleName());
    }

    void accepted(String call, Runnable action) {
        due(call, 0, () -> {
            action.run();
            return 0;
        });
    }

    void same(String what, Object due, Object got) {
        made++;
        if (!due.equals(got)) {
            tell(what, String.valueOf(got), due.toString());
        }
    }

    /** The whole plan is due to be: wanted length, begin, steps of one part after the other. */
    void parts(String name, CutLengths x, int... due) {
        for (int i = 0; i < due.length; i++) {
            int part = i / 3;
            int what = i % 3;
            due(name + ": part(" + part + ", " + what + ")", due[i], () -> x.part(part, what));
        }
        for (int what = 0; what < 3; what++) {
            int asked = what;
            due(name + ": no part more", -2, () -> x.part(due.length / 3, asked));
        }
    }

    void slab(String name, CutLengths x, int slab, int wanted, int begin, int steps) {
        due(name + ": wanted length", wanted, () -> x.slab(slab, 0));
        due(name + ": begin", begin, () -> x.slab(slab, 1));
        due(name + ": steps", steps, () -> x.slab(slab, 2));
    }

    int wrongs() {
        return wrong;
    }

    void end() {
        System.out.println(made + " checks, " + wrong + " wrong");
        if (wrong != 0 || made == 0) {
            System.exit(1);
        }
    }

    private void tell(String call, String got, String due) {
        wrong++;
        System.out.println(test + call + " answered " + got + ", due is " + due);
    }
}
