import java.io.IOException;
import java.lang.reflect.Array;
import java.lang.reflect.Field;
import java.lang.reflect.Method;
import java.lang.reflect.Modifier;
import java.nio.file.Files;
import java.nio.file.Path;
import java.util.ArrayList;
import java.util.IdentityHashMap;
import java.util.List;
import java.util.Map;
import java.util.Set;
import java.util.TreeSet;
import java.util.regex.Matcher;
import java.util.regex.Pattern;

/** Those rules of LANGUAGE.md that can be seen from outside, by the rule's number. */
public final class RulesTest {
    private static final Due due = new Due("RulesTest");
    private static final Path SOURCE = Path.of("src/main/java/FlockCounts.java");
    private static final Class<?>[] CLASSES = FlockCounts.class.getNestMembers();
    private static final Set<Class<?>> CONSTANTS = Set.of(int.class, long.class, boolean.class, char.class,
        String.class, int[].class, long[].class, char[].class, byte[].class);
    private static final Set<String> LIBRARY = Set.of("Math", "Integer", "Long", "System");
    private static final Pattern HEAD =
        Pattern.compile("( +)(?:(?:public|private|static) )*+[\\w\\[\\]]+ \\w+\\(.*\\) \\{");
    private static final Pattern INITIALISED = Pattern.compile(" +(?:private )?final [\\w\\[\\]]+ \\w+ = [^;]*;");

    public static void main(String[] args) throws IOException, IllegalAccessException {
        String source = Files.readString(SOURCE);
        String code = source.replaceAll("(?s)/\\*.*?\\*/", "").replaceAll("//[^\n]*", "");
        names();
        classesInside();
        signs(source);
        library(code);
        staticFields();
        refusedWords(code);
        sizes(source);
        madeOnlyAtFirst(code);
        room();
        due.end();
    }

    private static void holds(String rule, boolean so) {
        due.is(rule, so ? 1 : 0, 1);
    }

    private static void names() {
        Set<String> face = new TreeSet<>();
        for (Method method : FlockCounts.class.getMethods()) {
            face.add(method.getName());
        }
        for (Class<?> one : CLASSES) {
            for (Method method : one.getDeclaredMethods()) {
                boolean isFace = one == FlockCounts.class && Modifier.isPublic(method.getModifiers());
                holds("1: a name of the face, " + one + " " + method.getName(),
                    isFace || !face.contains(method.getName()));
            }
        }
    }

    private static void classesInside() {
        for (Class<?> one : CLASSES) {
            if (one != FlockCounts.class) {
                holds("2: static and a member, " + one, one.isMemberClass() && Modifier.isStatic(one.getModifiers()));
                holds("1: private or package-visible, " + one,
                    !Modifier.isPublic(one.getModifiers()) && !Modifier.isProtected(one.getModifiers()));
            }
        }
        holds("11: some twelve classes", CLASSES.length <= 12);
    }

    private static void signs(String source) {
        holds("4: signs 1 to 127", source.chars().allMatch(c -> c >= 1 && c <= 127));
    }

    private static void library(String code) {
        Set<String> own = new TreeSet<>();
        for (Class<?> one : CLASSES) {
            own.add(one.getSimpleName());
        }
        Matcher m = Pattern.compile("\\b([A-Z][a-z]\\w*)\\b").matcher(code.replaceAll("\"[^\"]*\"", "\"\""));
        while (m.find()) {
            String name = m.group(1);
            holds("3 and 4: " + name, own.contains(name) || LIBRARY.contains(name) || name.equals("String"));
        }
    }

    private static void staticFields() {
        for (Class<?> one : CLASSES) {
            for (Field field : one.getDeclaredFields()) {
                if (Modifier.isStatic(field.getModifiers())) {
                    holds("5: final, " + field, Modifier.isFinal(field.getModifiers()));
                    holds("5: a constant, " + field, CONSTANTS.contains(field.getType()));
                }
            }
        }
    }

    private static void refusedWords(String code) {
        List<String> refused = List.of("\\bthrow\\b", "\\btry\\b", "\\bcatch\\b", "\\bsynchronized\\b", "\\bassert\\b",
            "->", "::", "\\bimport\\b", "\\bpackage\\b", "Exact\\b", "\\bstatic \\{",
            "\\bprotected\\b", "\\bnative\\b", "System\\.(?!arraycopy)", "\\bvolatile\\b");
        for (String word : refused) {
            holds("2 to 6 and 13: the source has no " + word, !Pattern.compile(word).matcher(code).find());
        }
    }

    private static void sizes(String source) {
        int methods = 0;
        for (Class<?> one : CLASSES) {
            int fields = 0;
            for (Field field : one.getDeclaredFields()) {
                fields += Modifier.isStatic(field.getModifiers()) ? 0 : 1;
            }
            holds("11: some twenty fields, " + one, fields <= 20);
            for (Method method : one.getDeclaredMethods()) {
                holds("11: seven parameters, " + method, method.getParameterCount() <= 7);
                methods++;
            }
        }
        due.is("methods that were measured", measured(source.split("\n")), methods);
    }

    private static int measured(String[] lines) {
        int methods = 0;
        for (int i = 0; i < lines.length; i++) {
            Matcher m = HEAD.matcher(lines[i]);
            if (m.matches()) {
                int end = i;
                while (end < lines.length && !lines[end].equals(m.group(1) + "}")) {
                    end++;
                }
                holds("11: some sixty lines, " + lines[i].trim(), end < lines.length && end - i <= 60);
                methods++;
            }
        }
        return methods;
    }

    /** README.md says so, and the room that all calls share asks for it. */
    private static void madeOnlyAtFirst(String code) {
        for (String line : code.split("\n")) {
            if (Pattern.compile("\\bnew\\b|\\.clone\\(|\\bcopyOf|\\bsubstring\\b|toCharArray").matcher(line).find()) {
                holds("12: made outside a field, " + line.trim(), INITIALISED.matcher(line).matches());
            }
        }
    }

    private static void room() throws IllegalAccessException {
        FlockCounts x = Scene.full().make();
        int[] held = held(x);
        holds("the room: objects of one fell, " + held[0], held[0] <= 50);
        holds("the room: fields and elements of one fell, " + held[1], held[1] <= 600);
        due.is("the room: a full fell holds no more objects than a new one", held[0], held(new FlockCounts())[0]);
        due.is("the room: a full fell holds no more elements than a new one", held[1], held(new FlockCounts())[1]);
    }

    /** How many objects and arrays an object is made of, and how many fields and elements those have. */
    private static int[] held(Object whole) throws IllegalAccessException {
        Map<Object, Boolean> known = new IdentityHashMap<>();
        List<Object> all = new ArrayList<>();
        note(whole, known, all);
        int slots = 0;
        for (int i = 0; i < all.size(); i++) {
            Object one = all.get(i);
            if (one.getClass().isArray()) {
                slots += Array.getLength(one);
                for (int e = 0; e < Array.getLength(one) && one instanceof Object[] row; e++) {
                    note(row[e], known, all);
                }
                continue;
            }
            for (Field field : one.getClass().getDeclaredFields()) {
                if (!Modifier.isStatic(field.getModifiers())) {
                    slots++;
                    field.setAccessible(true);
                    if (!field.getType().isPrimitive()) {
                        note(field.get(one), known, all);
                    }
                }
            }
        }
        return new int[] {all.size(), slots};
    }

    private static void note(Object one, Map<Object, Boolean> known, List<Object> all) {
        if (one != null && known.put(one, true) == null) {
            all.add(one);
        }
    }
}
