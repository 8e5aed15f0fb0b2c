import com.sun.management.ThreadMXBean;
import java.lang.management.ManagementFactory;
import java.lang.reflect.Field;
import java.lang.reflect.Modifier;

/** "All memory is rows made once": behind the constructor no call makes an object or a row. */
public final class MemoryTest {
    private static final int RUNS = 10;
    private static final Checks CHECKS = new Checks();
    private static final ThreadMXBean THREADS = (ThreadMXBean) ManagementFactory.getThreadMXBean();

    // What is answered and made is kept here, so that the machine can leave none of it out.
    private static long sum = 0;
    private static int[] row = null;

    public static void main(String[] args) {
        CHECKS.test("rows are never changed for others", MemoryTest::rowsAreFinal);
        if (THREADS.isThreadAllocatedMemorySupported() && THREADS.isThreadAllocatedMemoryEnabled()) {
            CHECKS.test("the measure shows a row", MemoryTest::measureShowsRows);
            CHECKS.test("a run makes nothing", MemoryTest::runMakesNothing);
        } else {
            System.out.println("this machine does not count what a thread makes: not measured");
        }
        CHECKS.end();
    }

    private static void rowsAreFinal() {
        rowsAreFinal(CutLengths.class);
        for (Class<?> inside : CutLengths.class.getDeclaredClasses()) {
            rowsAreFinal(inside);
        }
    }

    private static void rowsAreFinal(Class<?> place) {
        for (Field field : place.getDeclaredFields()) {
            boolean isKept = field.getType().isPrimitive() || Modifier.isFinal(field.getModifiers());
            CHECKS.same(field.toString(), true, isKept);
        }
    }

    private static void measureShowsRows() {
        long before = THREADS.getCurrentThreadAllocatedBytes();
        row = new int[300];
        long made = THREADS.getCurrentThreadAllocatedBytes() - before;
        CHECKS.same("a row of 300 is seen", true, made >= 1200);
    }

    // The machine itself may make something when code runs for the first time: the least of some runs counts.
    private static void runMakesNothing() {
        long least = Long.MAX_VALUE;
        for (int run = 0; run < RUNS; run++) {
            CutLengths x = new CutLengths();
            long before = THREADS.getCurrentThreadAllocatedBytes();
            tellAskAndCut(x);
            least = Math.min(least, THREADS.getCurrentThreadAllocatedBytes() - before);
        }
        CHECKS.same("bytes", 0L, least);
    }

    private static void tellAskAndCut(CutLengths x) {
        x.step(250, 700);
        for (int wanted = 0; wanted < 6; wanted++) {
            sum += x.want(3 + wanted, 5 + wanted);
        }
        for (int round = 0; round < 20; round++) {
            sum += x.cast(15);
            x.trim(round % 3, round % 2);
            x.span(round % 6, 3, 4 + round % 5);
            sum += x.bad(15 * round + 5, 15 * round + 6);
            sum += x.bar(15 * round + 11, 15 * round + 12);
            sum += x.loss() + x.part(0, 0) + x.part(1, 1) + x.part(2, 2) + x.part(300, 0);
            sum += x.cut();
            sum += x.cut();
            sum += x.slab(round, 0) + x.slab(round, 1) + x.slab(round, 2) + x.weight(round);
            sum += x.count(-1) + x.count(round % 6) + x.torch();
        }
    }
}
