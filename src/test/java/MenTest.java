/** Promises 1 to 6: a new object, and men. */
public final class MenTest {
    private static final Due due = new Due("MenTest");

    public static void main(String[] args) {
        newObject();
        man();
        manOf();
        dress();
        first();
        goesHome();
        due.end();
    }

    private static void newObject() {
        FlockCounts x = new FlockCounts();
        int[] nows = {0, -1, -1, 0, 0, 0, 0};
        for (int what = 0; what < nows.length; what++) {
            due.is("new: now(" + what + ")", x.now(what), nows[what]);
        }
        for (int what = 0; what < 4; what++) {
            due.is("new: count(" + what + ")", x.count(what), 0);
        }
        due.is("new: tear()", x.tear(), 0);
        due.is("new: wipe()", x.wipe(), 0);
        due.is("new: lays(0)", x.lays(0), Due.MISSING);
        due.is("new: lays(3)", x.lays(3), Due.MISSING);
        due.is("new: status(-1)", x.status(-1), 2);
        due.is("new: undo()", x.undo(), Due.NONE);
    }

    private static void man() {
        FlockCounts x = new FlockCounts();
        due.is("man(-1)", x.man(-1), Due.BEYOND);
        due.is("man(8)", x.man(8), Due.BEYOND);
        due.is("man(min)", x.man(Integer.MIN_VALUE), Due.BEYOND);
        due.is("count after findings", x.count(1), 0);
        for (int m = 0; m < 6; m++) {
            due.is("man(" + (7 - m) + ")", x.man(7 - m), m);
            due.is("its guise", x.manOf(m, 0), 7 - m);
            due.is("its wear", x.manOf(m, 1), 0);
        }
        due.is("a 7th", x.man(0), Due.FULL);
        due.is("a 7th, beyond first", x.man(8), Due.BEYOND);
        due.is("count of men", x.count(1), 6);
        due.is("status BEYOND", x.status(0), 4);
        due.is("status FULL", x.status(1), 1);
    }

    private static void manOf() {
        FlockCounts x = new FlockCounts();
        due.is("manOf of none", x.manOf(0, 0), Due.BEYOND);
        x.man(5);
        x.dress(0, 1, 42);
        due.is("manOf(0, 0)", x.manOf(0, 0), 5);
        due.is("manOf(0, 1)", x.manOf(0, 1), 42);
        due.is("manOf(0, 2)", x.manOf(0, 2), Due.BEYOND);
        due.is("manOf(0, -1)", x.manOf(0, -1), Due.BEYOND);
        due.is("manOf(1, 0)", x.manOf(1, 0), Due.BEYOND);
        due.is("manOf(-1, 0)", x.manOf(-1, 0), Due.BEYOND);
    }

    private static void dress() {
        FlockCounts x = new FlockCounts();
        due.is("dress of none", x.dress(0, 0, 0), Due.BEYOND);
        x.man(1);
        due.is("dress guise 7", x.dress(0, 0, 7), 1);
        due.is("dress guise 0", x.dress(0, 0, 0), 7);
        due.is("dress guise 8", x.dress(0, 0, 8), Due.BEYOND);
        due.is("dress guise -1", x.dress(0, 0, -1), Due.BEYOND);
        due.is("dress wear 99", x.dress(0, 1, 99), 0);
        due.is("dress wear 98", x.dress(0, 1, 98), 99);
        due.is("dress wear 100", x.dress(0, 1, 100), Due.BEYOND);
        due.is("dress wear -1", x.dress(0, 1, -1), Due.BEYOND);
        due.is("dress what 2", x.dress(0, 2, 1), Due.BEYOND);
        due.is("dress what -1", x.dress(0, -1, 1), Due.BEYOND);
        due.is("dress man 1", x.dress(1, 0, 1), Due.BEYOND);
        due.is("dress man -1", x.dress(-1, 0, 1), Due.BEYOND);
        due.is("guise stays", x.manOf(0, 0), 0);
        due.is("wear stays", x.manOf(0, 1), 98);
    }

    private static void first() {
        FlockCounts x = new FlockCounts();
        due.is("first of none", x.first(0), Due.BEYOND);
        x.man(1);
        x.man(2);
        x.man(4);
        due.is("first(2)", x.first(2), 0);
        due.is("first(1)", x.first(1), 2);
        due.is("first(3)", x.first(3), Due.BEYOND);
        due.is("first(-1)", x.first(-1), Due.BEYOND);
        due.is("turn", x.now(2), 1);
        x.minutes(1);
        due.is("who passed", x.now(1), 2);
        due.is("turn goes on", x.now(2), 2);
        x.minutes(1);
        due.is("behind the last comes 0", x.now(2), 0);
    }

    private static void goesHome() {
        FlockCounts x = new FlockCounts();
        due.is("none to go", x.goesHome(), Due.NONE);
        x.man(1);
        x.man(2);
        x.man(4);
        x.dress(2, 1, 50);
        x.first(1);
        due.is("one goes", x.goesHome(), 2);
        due.is("turn stays", x.now(2), 1);
        due.is("the next goes", x.goesHome(), 1);
        due.is("the turn was his", x.now(2), 0);
        due.is("he is gone", x.manOf(1, 0), Due.BEYOND);
        due.is("another comes", x.man(3), 1);
        x.man(6);
        due.is("the new one isn't worn", x.manOf(2, 1), 0);
        x.goesHome();
        x.goesHome();
        due.is("the last goes", x.goesHome(), 0);
        due.is("nobody's turn", x.now(2), -1);
        due.is("none is left", x.goesHome(), Due.NONE);
        due.is("status NONE", x.status(3), 2);
    }
}
