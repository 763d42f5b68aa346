import java.lang.reflect.InvocationTargetException;
import java.lang.reflect.Method;
import java.util.Arrays;
import java.util.Comparator;

/**
 * Every call with every mixture of the numbers at which some range of the document begins or ends, where nobody is,
 * where some are and where there is no room: it never throws, and Model answers the same.
 */
public final class ExtremesTest {
    private static final Due due = new Due("ExtremesTest");
    private static final int[] NUMBERS = {Integer.MIN_VALUE, -1000000001, -129, -1, 0, 1, 2, 3, 4, 5, 6, 7, 8, 9, 16, 39,
        40, 41, 64, 99, 100, 101, 127, 128, 594, 595, 9999, 10000, Integer.MAX_VALUE};
    /** For calls of many arguments. */
    private static final int[] FEW = {Integer.MIN_VALUE, -1, 0, 1, 2, 3, 4, 40, 41, Integer.MAX_VALUE};

    private final int scene;
    private FlockCounts x;
    private Model model;

    private ExtremesTest(int scene) {
        this.scene = scene;
    }

    public static void main(String[] args) {
        Method[] calls = FlockCounts.class.getDeclaredMethods();
        Arrays.sort(calls, Comparator.comparing(Method::getName));
        for (int scene = 0; scene < 3; scene++) {
            for (Method call : calls) {
                if ((call.getModifiers() & 1) != 0) {
                    new ExtremesTest(scene).mix(call);
                }
            }
        }
        due.end();
    }

    private void mix(Method call) {
        x = new FlockCounts();
        model = new Model();
        settle();
        int many = call.getParameterCount();
        int[] numbers = many > 3 ? FEW : NUMBERS;
        int all = (int) Math.pow(numbers.length, many);
        for (int i = 0; i < all && !due.hasWrong(); i++) {
            long[] args = new long[many];
            int left = i;
            for (int a = 0; a < many; a++) {
                args[a] = numbers[left % numbers.length];
                left /= numbers.length;
            }
            both(call, args);
        }
        look();
    }

    private void both(Method call, long... args) {
        Object[] boxed = new Object[args.length];
        for (int i = 0; i < args.length; i++) {
            boxed[i] = call.getParameterTypes()[i] == long.class ? (Object) args[i] : (Object) (int) args[i];
        }
        String name = "scene " + scene + ", " + call.getName() + Arrays.toString(args);
        try {
            due.is(name, ((Number) call.invoke(x, boxed)).longValue(), model.call(call.getName(), args));
        } catch (IllegalAccessException | InvocationTargetException e) {
            due.same(name, "threw " + e.getCause(), "answers");
        }
    }

    private void both(String name, long... args) {
        for (Method call : FlockCounts.class.getDeclaredMethods()) {
            if (call.getName().equals(name)) {
                both(call, args);
            }
        }
    }

    private void settle() {
        int men = scene == 0 ? 0 : 3 * scene;
        int sheep = scene == 0 ? 0 : 2 + 3 * scene;
        for (int m = 0; m < men; m++) {
            both("man", 7 - m);
            both("dress", m, 1, m == 1 ? 99 : 10 * m);
        }
        for (int s = 0; s < sheep; s++) {
            both("sheep", s % 6);
            both("set", s, 1, 9 * s);
        }
        if (scene > 0) {
            both("minutes", 2);
            both("image");
            both("sheet", 0, 8, 3);
            both("sheet", 1, 16, 40);
            both("sheet", 2, 8, 40);
            both("book", 1, 1);
        }
        for (int i = 0; i < 20 * scene - 10; i++) {
            both("feed", 0x3b74756d, 4);
        }
    }

    /** What the calls left behind. */
    private void look() {
        for (int which = -1; which < 7; which++) {
            both("status", which);
        }
        for (int i = 0; i < 8; i++) {
            both("now", i);
            both("count", i);
            for (int what = 0; what < 6; what++) {
                both("of", i, what);
                both("manOf", i, what);
            }
        }
        for (int s = 0; s < 4; s++) {
            for (int i = 0; i <= 40; i++) {
                both("write", s, i, 0);
            }
        }
        both("fell");
        both("undo");
        both("now", 4);
        both("tear");
    }
}
