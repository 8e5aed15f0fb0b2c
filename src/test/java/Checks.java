import java.util.function.LongSupplier;

/** Counts and prints the calls whose answers are not the ones that are due. */
final class Checks {
    private int wrong = 0;
    private int made = 0;

    void due(String call, long due, LongSupplier answer) {
        made++;
        String got;
        try {
            long value = answer.getAsLong();
            if (value == due) {
                return;
            }
            got = Long.toString(value);
        } catch (RuntimeException e) {
            got = "throws." + e.getClass().getSimpleName();
        }
        tell(call, got, Long.toString(due));
    }

    // The very class is asked for, so that what the machine throws never passes for what the document names.
    void refused(String call, Class<? extends RuntimeException> due, Runnable action) {
        made++;
        String got = "nothing thrown";
        try {
            action.run();
        } catch (RuntimeException e) {
            if (e.getClass() == due) {
                return;
            }
            got = "throws." + e.getClass().getSimpleName();
        }
        tell(call, got, "throws." + due.getSimpleName());
    }

    void accepted(String call, Runnable action) {
        due(call, 0, () -> {
            action.run();
            return 0;
        });
    }

    void same(String what, Object due, Object got) {
        made++;
        if (!due.equals(got)) {
            tell(what, String.valueOf(got), due.toString());
        }
    }

    int wrongs() {
        return wrong;
    }

    void end() {
        System.out.println(made + " checks, " + wrong + " wrong");
        if (wrong != 0 || made == 0) {
            System.exit(1);
        }
    }

    private void tell(String call, String got, String due) {
        wrong++;
        System.out.println(call + " answered " + got + ", due is " + due);
    }
}
