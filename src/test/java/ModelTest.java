import java.lang.reflect.InvocationTargetException;
import java.lang.reflect.Method;
import java.util.HashMap;
import java.util.Map;
import java.util.Random;

/** Long runs of calls, each answered by the class and by Model: every answer is to be the same. The seeds are fixed. */
public final class ModelTest {
    private static final Due due = new Due("ModelTest");
    private static final int CALLS = 512;

    /**
     * The calls with what their arguments are: m man, g guise, s sheep, k kind, p page (sheet), w what, v value up to
     * 99, n minutes, c few minutes, l wear of all, b bits, i place, j many, q status, y bytes, x any long. Those that
     * stand behind one another more often are called more often.
     */
    private static final String[] CALLED = {"man g", "man g", "manOf mw", "dress mwv", "dress mwv", "dress mwg",
        "first m", "goesHome", "sheep k", "sheep k", "of sw", "set swv", "set swv", "turn sk", "as sk", "counts sg",
        "minutes n", "minutes c", "minutes c", "now w", "now w", "on snw", "on scw", "worn mn", "sleeps s", "quiet",
        "bare m", "guise m", "guises mm", "swap", "swap", "spare cl", "kind s", "most sn", "most sc", "begin c",
        "last", "feed yj", "wipe", "fell", "sheet pbi", "sheet pbi", "write pix", "write piv", "write piv",
        "copy pipij", "copy pipij", "lays p", "book ps", "read ps", "image", "undo", "tear", "count w", "status q"};
    private static final String[] WORDS = {"sheep", "ewe", "lamb", "wether", "waker", "tup", "man", "dog", "stick",
        "limp", "worn", "wants", ";", ";", " ", "  ", "0", "7", "99", "100", "1000", "?", "Man", "goat"};

    private final Random random;
    private final FlockCounts x = new FlockCounts();
    private final Model model = new Model();
    private final Map<String, Method> methods = new HashMap<>();
    private final StringBuilder told = new StringBuilder();
    private int calls;

    private ModelTest(long seed) {
        random = new Random(seed);
        for (Method m : FlockCounts.class.getDeclaredMethods()) {
            methods.put(m.getName(), m);
        }
    }

    public static void main(String[] args) {
        int runs = args.length > 0 ? Integer.parseInt(args[0]) : 150;
        for (int seed = 0; seed < runs && !due.hasWrong(); seed++) {
            new ModelTest(seed).run(seed);
        }
        due.end();
    }

    private void run(int seed) {
        settle(seed % 3);
        while (calls < CALLS && !due.hasWrong()) {
            if (random.nextInt(25) == 0) {
                tellText();
            } else if (random.nextInt(25) == 0) {
                tellSeen();
            } else {
                String[] call = CALLED[random.nextInt(CALLED.length)].split(" ");
                String kinds = call.length > 1 ? call[1] : "";
                long[] args = new long[kinds.length()];
                for (int i = 0; i < args.length; i++) {
                    args[i] = argument(kinds.charAt(i));
                }
                call(call[0], args);
            }
        }
        if (due.hasWrong()) {
            System.out.println("seed " + seed + ":" + told);
        }
    }

    /** Runs begin with few, some or many, so that whole flocks and empty ones are both met. */
    private void settle(int many) {
        for (int i = 0; i < 3 * many; i++) {
            call("sheep", random.nextInt(6));
            call("set", i, 1, random.nextInt(100));
            call("man", random.nextInt(8));
        }
    }

    private long call(String name, long... args) {
        calls++;
        told.append(' ').append(name).append(java.util.Arrays.toString(args));
        long got = answerOf(methods.get(name), args);
        due.is(name, got, model.call(name, args));
        return got;
    }

    private long answerOf(Method method, long[] args) {
        Object[] boxed = new Object[args.length];
        for (int i = 0; i < args.length; i++) {
            if (method.getParameterTypes()[i] == long.class) {
                boxed[i] = args[i];
            } else {
                boxed[i] = (int) args[i];
            }
        }
        try {
            return ((Number) method.invoke(x, boxed)).longValue();
        } catch (IllegalAccessException | InvocationTargetException e) {
            System.out.println(told + " threw " + e.getCause());
            return Long.MIN_VALUE;
        }
    }

    private long argument(char what) {
        if (random.nextInt(60) == 0) {
            int[] odd = {-1, Integer.MIN_VALUE, Integer.MAX_VALUE, 1000, -1000000001};
            return odd[random.nextInt(odd.length)];
        }
        switch (what) {
            case 'm':
                return random.nextInt((int) model.call("count", new long[] {1}) + 1);
            case 's':
                return random.nextInt((int) model.call("count", new long[] {0}) + 1);
            case 'g':
                return random.nextInt(9);
            case 'k':
                return random.nextInt(7);
            case 'p':
                return random.nextInt(5);
            case 'w':
                return random.nextInt(8) < 5 ? random.nextInt(2) : random.nextInt(8);
            case 'v':
                return random.nextInt(4) == 0 ? 90 + random.nextInt(12) : random.nextInt(100);
            case 'n':
                return random.nextInt(103);
            case 'c':
                return 1 + random.nextInt(12);
            case 'l':
                return random.nextInt(600) / (1 + random.nextInt(6));
            case 'b':
                return new int[] {0, 8, 8, 16, 16, 64, 64, 32}[random.nextInt(8)];
            case 'i':
                return random.nextInt(6) == 0 ? random.nextInt(42) : random.nextInt(8);
            case 'j':
                return random.nextInt(6);
            case 'q':
                return random.nextInt(10) - 2;
            case 'y':
                return random.nextInt();
            default:
                return random.nextLong() >> random.nextInt(64);
        }
    }

    private void tellText() {
        call("wipe");
        if (random.nextBoolean()) {
            call("goesHome");
        }
        StringBuilder text = new StringBuilder();
        int items = 1 + random.nextInt(3);
        for (int i = 0; i < items; i++) {
            text.append(i == 0 ? "" : ";").append(random.nextBoolean() ? " " : "").append(item());
        }
        if (random.nextInt(3) == 0) {
            int at = random.nextInt(text.length() + 1);
            text.insert(at, WORDS[random.nextInt(WORDS.length)]);
        }
        for (int i = 0; i < text.length(); i++) {
            call("feed", text.charAt(i), 1);
        }
        call("fell");
    }

    private String item() {
        if (random.nextBoolean()) {
            return WORDS[random.nextInt(6)] + (random.nextBoolean() ? " wants " + random.nextInt(102) : "");
        }
        return "man" + (random.nextBoolean() ? " dog" : "") + (random.nextBoolean() ? " stick" : "")
            + (random.nextBoolean() ? " limp" : "") + (random.nextBoolean() ? " worn " + random.nextInt(102) : "");
    }

    /** Writes what one will have seen, so that read() finds more than none. */
    private void tellSeen() {
        long many = model.call("count", new long[] {0});
        if (many == 0) {
            return;
        }
        long sheep = random.nextInt((int) many);
        long numbers = 1 + random.nextInt(12);
        call("sheet", 1, random.nextBoolean() ? 16 : 8, numbers);
        for (long i = 0; i < numbers; i++) {
            call("write", 1, i, call("on", sheep, i, 1));
        }
        call("read", 1, sheep);
    }
}
