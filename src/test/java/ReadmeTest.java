import java.io.IOException;
import java.lang.reflect.InvocationTargetException;
import java.lang.reflect.Method;
import java.lang.reflect.Modifier;
import java.nio.file.Files;
import java.nio.file.Path;
import java.util.Map;
import java.util.Set;
import java.util.TreeMap;
import java.util.TreeSet;
import java.util.regex.Matcher;
import java.util.regex.Pattern;

/** What README.md tells of the calls: each line of its example is made on one object, and answers what stands there. */
public final class ReadmeTest {
    private static final Due due = new Due("ReadmeTest");
    private static final Path README = Path.of("README.md");
    private static final Pattern CALL = Pattern.compile("fell\\.(\\w+)\\(([^)]*)\\); +// (-?\\d+)(?:: .+)?");
    private static final Pattern FINDING = Pattern.compile("\\| (-\\d+) \\| (\\w+) +\\| (\\d) +\\|.*");

    private static final Map<String, Method> methods = new TreeMap<>();

    public static void main(String[] args) throws IOException {
        for (Method m : FlockCounts.class.getDeclaredMethods()) {
            if (Modifier.isPublic(m.getModifiers())) {
                methods.put(m.getName(), m);
            }
        }
        example();
        findings();
        due.end();
    }

    private static void example() throws IOException {
        FlockCounts fell = new FlockCounts();
        Set<String> shown = new TreeSet<>();
        for (String line : Files.readAllLines(README)) {
            if (line.startsWith("fell.")) {
                Matcher m = CALL.matcher(line);
                due.is("README tells the answer of " + line, m.matches() ? 1 : 0, 1);
                if (m.matches() && methods.containsKey(m.group(1))) {
                    due.is("README: " + line, answer(fell, m.group(1), m.group(2)), Long.parseLong(m.group(3)));
                    shown.add(m.group(1));
                }
            }
        }
        due.same("calls that README shows", shown, new TreeSet<>(methods.keySet()));
    }

    private static long answer(FlockCounts fell, String name, String told) {
        String[] numbers = told.isEmpty() ? new String[0] : told.split(", ");
        Object[] args = new Object[numbers.length];
        for (int i = 0; i < args.length; i++) {
            boolean isLong = methods.get(name).getParameterTypes()[i] == long.class;
            args[i] = isLong ? (Object) Long.decode(numbers[i]) : (Object) Integer.decode(numbers[i]);
        }
        try {
            return ((Number) methods.get(name).invoke(fell, args)).longValue();
        } catch (IllegalAccessException | InvocationTargetException e) {
            due.same(name, "threw " + e.getCause(), "answers");
            return Long.MIN_VALUE;
        }
    }

    private static void findings() throws IOException {
        String document = Files.readString(Path.of("../shared/DOC.md"));
        int rows = 0;
        for (String line : Files.readAllLines(README)) {
            Matcher m = FINDING.matcher(line);
            if (m.matches()) {
                due.is("the document has " + line, document.contains(m.group(1) + " " + m.group(2)) ? 1 : 0, 1);
                due.is("its status", Due.BEYOND - Integer.parseInt(m.group(1)), Integer.parseInt(m.group(3)));
                rows++;
            }
        }
        due.is("findings that README tells", rows, 7);
    }
}
