import java.io.IOException;
import java.lang.reflect.InvocationTargetException;
import java.lang.reflect.Method;
import java.nio.file.Files;
import java.nio.file.Path;
import java.util.regex.Matcher;
import java.util.regex.Pattern;

/** The calls that README.md shows answer what it says. */
public final class ReadmeTest {
    private static final Pattern CALL = Pattern.compile("strand\\.(\\w+)\\(([-\\d, ]*)\\); *// (?:(-?\\d+): )?.*");
    private static final int LEAST_CALLS = 20;

    public static void main(String[] args) throws IOException, IllegalAccessException {
        Checks checks = new Checks();
        CutLengths strand = new CutLengths();
        int calls = 0;
        for (String line : Files.readAllLines(Path.of("README.md"))) {
            Matcher call = CALL.matcher(line);
            if (call.matches()) {
                calls++;
                checks.same(line, String.valueOf(call.group(3)), answer(strand, call.group(1), numbers(call.group(2))));
            } else {
                checks.same(line, false, line.startsWith("strand."));
            }
        }
        checks.same("calls are found", true, calls >= LEAST_CALLS);
        checks.end();
    }

    private static Object[] numbers(String text) {
        return Pattern.compile(", *").splitAsStream(text).filter(part -> !part.isEmpty())
            .map(Integer::valueOf).toArray();
    }

    // A call without an answer has "null" as the readme's line has no number.
    private static String answer(CutLengths strand, String name, Object[] numbers) throws IllegalAccessException {
        for (Method method : CutLengths.class.getMethods()) {
            if (method.getName().equals(name) && method.getParameterCount() == numbers.length) {
                try {
                    return String.valueOf(method.invoke(strand, numbers));
                } catch (InvocationTargetException e) {
                    return "throws." + e.getCause().getClass().getSimpleName();
                }
            }
        }
        return "no such method";
    }
}
