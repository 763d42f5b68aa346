/** Promises 7 to 12: sheep. */
public final class SheepTest {
    private static final Due due = new Due("SheepTest");

    public static void main(String[] args) {
        sheep();
        of();
        set();
        turn();
        as();
        counts();
        countsByGuise();
        due.end();
    }

    private static FlockCounts oneOfEach() {
        FlockCounts x = new FlockCounts();
        for (int kind = 0; kind < 6; kind++) {
            x.sheep(kind);
        }
        return x;
    }

    private static void sheep() {
        FlockCounts x = new FlockCounts();
        due.is("sheep(-1)", x.sheep(-1), Due.BEYOND);
        due.is("sheep(6)", x.sheep(6), Due.BEYOND);
        for (int s = 0; s < 8; s++) {
            due.is("sheep " + s, x.sheep(s % 6), s);
            due.is("its kind", x.of(s, 0), s % 6);
            due.is("its wants", x.of(s, 1), 20);
            due.is("its seen", x.of(s, 2), 0);
        }
        due.is("a 9th", x.sheep(0), Due.FULL);
        due.is("a 9th, beyond first", x.sheep(6), Due.BEYOND);
        due.is("count of sheep", x.count(0), 8);
    }

    private static void of() {
        FlockCounts x = oneOfEach();
        int[] wakes = {0, 1, 2, 0, 2, 0};
        int[] tires = {1, 1, 0, 1, 2, 1};
        for (int s = 0; s < 6; s++) {
            due.is("of(" + s + ", 3)", x.of(s, 3), 0);
            due.is("of(" + s + ", 4)", x.of(s, 4), wakes[s]);
            due.is("of(" + s + ", 5)", x.of(s, 5), tires[s]);
        }
        x.set(2, 1, 0);
        due.is("it sleeps", x.of(2, 3), 1);
        due.is("of(2, -1)", x.of(2, -1), Due.BEYOND);
        due.is("of(2, 6)", x.of(2, 6), Due.BEYOND);
        due.is("of(6, 0)", x.of(6, 0), Due.BEYOND);
        due.is("of(-1, 0)", x.of(-1, 0), Due.BEYOND);
    }

    private static void set() {
        FlockCounts x = oneOfEach();
        due.is("set wants 99", x.set(1, 1, 99), 20);
        due.is("set wants 0", x.set(1, 1, 0), 99);
        due.is("set wants 100", x.set(1, 1, 100), Due.BEYOND);
        due.is("set wants -1", x.set(1, 1, -1), Due.BEYOND);
        due.is("set seen 9999", x.set(1, 2, 9999), 0);
        due.is("set seen 0", x.set(1, 2, 0), 9999);
        due.is("set seen 7", x.set(1, 2, 7), 0);
        due.is("set seen 10000", x.set(1, 2, 10000), Due.BEYOND);
        due.is("set seen -1", x.set(1, 2, -1), Due.BEYOND);
        due.is("set kind", x.set(1, 0, 1), Due.BEYOND);
        due.is("set what 3", x.set(1, 3, 1), Due.BEYOND);
        due.is("set of no sheep", x.set(6, 1, 1), Due.BEYOND);
        due.is("set of -1", x.set(-1, 1, 1), Due.BEYOND);
        due.is("wants stays", x.of(1, 1), 0);
        due.is("seen stays", x.of(1, 2), 7);
        due.is("another one's stays", x.of(0, 1), 20);
    }

    private static void turn() {
        FlockCounts x = oneOfEach();
        x.set(0, 1, 33);
        x.set(0, 2, 4);
        due.is("turn(0, 5)", x.turn(0, 5), 0);
        due.is("turn(0, 4)", x.turn(0, 4), 5);
        due.is("turn(0, 4) again", x.turn(0, 4), 4);
        due.is("kind", x.of(0, 0), 4);
        due.is("wants stays", x.of(0, 1), 33);
        due.is("seen stays", x.of(0, 2), 4);
        due.is("turn(0, 6)", x.turn(0, 6), Due.BEYOND);
        due.is("turn(0, -1)", x.turn(0, -1), Due.BEYOND);
        due.is("turn(6, 0)", x.turn(6, 0), Due.BEYOND);
        due.is("turn(-1, 0)", x.turn(-1, 0), Due.BEYOND);
        due.is("kind stays", x.of(0, 0), 4);
    }

    private static void as() {
        FlockCounts x = oneOfEach();
        String[] fits = {"100000", "110000", "101000", "100100", "110010", "100101"};
        for (int s = 0; s < 6; s++) {
            x.set(s, 1, 30 + s);
            for (int kind = 0; kind < 6; kind++) {
                long want = fits[s].charAt(kind) == '1' ? 30 + s : Due.KIND;
                due.is("as(" + s + ", " + kind + ")", x.as(s, kind), want);
            }
        }
        due.is("as(0, 6)", x.as(0, 6), Due.BEYOND);
        due.is("as(0, -1)", x.as(0, -1), Due.BEYOND);
        due.is("as(6, 0)", x.as(6, 0), Due.BEYOND);
        due.is("as(-1, 0)", x.as(-1, 0), Due.BEYOND);
        due.is("status KIND", x.status(2), 23);
        due.is("status BEYOND", x.status(0), 4);
    }

    private static void counts() {
        FlockCounts x = oneOfEach();
        due.is("counts(0, 8)", x.counts(0, 8), Due.BEYOND);
        due.is("counts(0, -1)", x.counts(0, -1), Due.BEYOND);
        due.is("counts(6, 0)", x.counts(6, 0), Due.BEYOND);
        due.is("counts(-1, 0)", x.counts(-1, 0), Due.BEYOND);
        x.set(0, 1, 0);
        due.is("counts for a sleeper too", x.counts(0, 0), 4);
        due.is("counts beyond what it wants", x.counts(2, 0), 8);
    }

    /** THE LAST is 3 (dog and stick), once at an odd MINUTE and once at an even one. */
    private static void countsByGuise() {
        int[] unlike = {2, 1, 1, 0, 3, 2, 2, 1};
        for (int minute = 1; minute <= 2; minute++) {
            FlockCounts x = oneOfEach();
            x.man(3);
            x.minutes(minute);
            for (int g = 0; g < 8; g++) {
                int plain = 1 + unlike[g];
                int stick = g == 2 || g == 3 || g == 6 || g == 7 ? 1 : 0;
                int dog = g % 2 == 1 ? 2 : 0;
                int changed = unlike[g] == 0 ? 0 : plain;
                String at = " in " + g + " at " + minute;
                due.is("sheep" + at, x.counts(0, g), plain);
                due.is("ewe" + at, x.counts(1, g), plain + stick);
                due.is("lamb" + at, x.counts(2, g), 2 * plain);
                due.is("wether" + at, x.counts(3, g), changed);
                due.is("waker" + at, x.counts(4, g), plain + stick - (minute == 1 ? 1 : 0));
                due.is("tup" + at, x.counts(5, g), changed + dog);
            }
        }
    }
}
