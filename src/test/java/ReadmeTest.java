import java.io.IOException;
import java.lang.reflect.Method;
import java.lang.reflect.Modifier;
import java.nio.file.Files;
import java.nio.file.Path;
import java.util.Set;
import java.util.TreeSet;
import java.util.regex.Matcher;
import java.util.regex.Pattern;

/** Makes the calls of README.md's example; each must answer what stands behind it, and every call is among them. */
public final class ReadmeTest {
    private static final Pattern CALL = Pattern.compile("court\\.(\\w+)\\(([^)]*)\\); +// (-?\\d+|true|false)\\b.*");

    private static Object[] numbers(String list) {
        if (list.isEmpty()) {
            return new Object[0];
        }
        String[] parts = list.split(", ");
        Object[] numbers = new Object[parts.length];
        for (int i = 0; i < parts.length; i++) {
            numbers[i] = parts[i].equals("HedgeCourt.NONE") ? HedgeCourt.NONE : Integer.decode(parts[i]);
        }
        return numbers;
    }

    private static Method method(String name) {
        for (Method m : HedgeCourt.class.getDeclaredMethods()) {
            if (m.getName().equals(name) && Modifier.isPublic(m.getModifiers())) {
                return m;
            }
        }
        throw new IllegalStateException("README.md makes a call that there is not: " + name);
    }

    private static String example() throws IOException {
        Matcher block = Pattern.compile("(?s)```java\n(.*?)```").matcher(Files.readString(Path.of("README.md")));
        return block.find() ? block.group(1) : "";
    }

    public static void main(String[] args) throws Exception {
        Check.about("README.md");
        HedgeCourt court = new HedgeCourt();
        Set<String> missing = new TreeSet<>();
        for (Method m : HedgeCourt.class.getDeclaredMethods()) {
            if (Modifier.isPublic(m.getModifiers())) {
                missing.add(m.getName());
            }
        }
        String[] lines = example().split("\n");
        for (int i = 1; i < lines.length; i++) {
            Matcher call = CALL.matcher(lines[i]);
            if (!call.matches()) {
                Check.fail("no call with its answer: " + lines[i]);
                continue;
            }
            String answer = String.valueOf(method(call.group(1)).invoke(court, numbers(call.group(2))));
            if (!answer.equals(call.group(3))) {
                Check.fail(lines[i] + " answered " + answer);
            }
            missing.remove(call.group(1));
        }
        if (!missing.isEmpty()) {
            Check.fail("calls that the example does not make: " + missing);
        }
        Check.finish("README.md's calls answer what stands behind them");
    }
}
