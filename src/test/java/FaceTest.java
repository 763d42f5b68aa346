import java.io.IOException;
import java.lang.reflect.Constructor;
import java.lang.reflect.Field;
import java.lang.reflect.Method;
import java.lang.reflect.Modifier;
import java.nio.file.Files;
import java.nio.file.Path;
import java.util.Set;
import java.util.TreeSet;
import java.util.regex.Matcher;
import java.util.regex.Pattern;

/** The public face of the document: these calls and no other member. */
public final class FaceTest {
    private static final Due due = new Due("FaceTest");
    private static final Path DOCUMENT = Path.of("../shared/DOC.md");
    private static final Pattern FACE = Pattern.compile("(?m)^    public (int|long) (\\w+)\\(([^)]*)\\);$");

    public static void main(String[] args) throws IOException {
        face();
        members();
        due.end();
    }

    private static void face() throws IOException {
        Set<String> wanted = new TreeSet<>();
        Matcher m = FACE.matcher(Files.readString(DOCUMENT));
        while (m.find()) {
            String types = m.group(3).replaceAll(" \\w+(?=,|$)", "").replace(" ", "");
            wanted.add(m.group(1) + " " + m.group(2) + "(" + types + ")");
        }
        Set<String> found = new TreeSet<>();
        for (Method method : FlockCounts.class.getDeclaredMethods()) {
            if (!Modifier.isPrivate(method.getModifiers())) {
                StringBuilder types = new StringBuilder();
                for (Class<?> type : method.getParameterTypes()) {
                    types.append(types.length() == 0 ? "" : ",").append(type.getName());
                }
                found.add(method.getReturnType().getName() + " " + method.getName() + "(" + types + ")");
            }
        }
        due.is("calls of the document", wanted.size(), 40);
        for (String one : wanted) {
            due.is(one + " is there", found.contains(one) ? 1 : 0, 1);
        }
        due.is("no other call", found.size(), wanted.size());
    }

    private static void members() {
        due.is("public and final", FlockCounts.class.getModifiers(), Modifier.PUBLIC | Modifier.FINAL);
        for (Field field : FlockCounts.class.getDeclaredFields()) {
            due.is(field.getName() + " is private", Modifier.isPrivate(field.getModifiers()) ? 1 : 0, 1);
        }
        Constructor<?>[] made = FlockCounts.class.getDeclaredConstructors();
        due.is("one constructor", made.length, 1);
        due.is("without arguments", made[0].getParameterCount(), 0);
        due.is("it is public", made[0].getModifiers(), Modifier.PUBLIC);
    }
}
