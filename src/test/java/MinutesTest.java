/** Promises 13 to 19: minutes. */
public final class MinutesTest {
    private static final Due due = new Due("MinutesTest");

    public static void main(String[] args) {
        minutesOfNobody();
        minutesOfOneMan();
        minutesOfABareMan();
        minutesOfWaker();
        minutesAtTheEnd();
        now();
        on();
        worn();
        sleepsAndQuiet();
        bare();
        due.end();
    }

    /** One man in guise 0 and three who are worn out: an ewe wants 1 less in each round of four minutes. */
    static FlockCounts slowEwe(int wants, int turn) {
        FlockCounts x = new FlockCounts();
        x.man(0);
        for (int m = 1; m < 4; m++) {
            x.man(0);
            x.dress(m, 1, 99);
        }
        x.sheep(1);
        x.set(0, 1, wants);
        x.first(turn);
        return x;
    }

    private static void minutesOfNobody() {
        FlockCounts x = new FlockCounts();
        for (int kind = 0; kind < 6; kind++) {
            x.sheep(kind);
        }
        x.set(0, 1, 0);
        x.set(1, 1, 0);
        due.is("minutes(0)", x.minutes(0), Due.BEYOND);
        due.is("minutes(-1)", x.minutes(-1), Due.BEYOND);
        due.is("minutes(101)", x.minutes(101), Due.BEYOND);
        due.is("no minute went", x.now(0), 0);
        due.is("minutes(1)", x.minutes(1), 1);
        int[] then = {0, 1, 22, 20, 22, 20};
        int[] later = {0, 98, 99, 20, 99, 20};
        int[] last = {0, 99, 99, 20, 99, 20};
        for (int s = 0; s < 6; s++) {
            due.is("wants of " + s, x.of(s, 1), then[s]);
        }
        due.is("minutes(97)", x.minutes(97), 1);
        for (int s = 0; s < 6; s++) {
            due.is("wants later of " + s, x.of(s, 1), later[s]);
        }
        due.is("minutes(100)", x.minutes(100), 1);
        for (int s = 0; s < 6; s++) {
            due.is("wants at last of " + s, x.of(s, 1), last[s]);
            due.is("seen of " + s, x.of(s, 2), 0);
        }
        due.is("minute", x.now(0), 198);
    }

    private static void minutesOfOneMan() {
        FlockCounts x = new FlockCounts();
        x.sheep(0);
        x.sheep(2);
        x.man(0);
        due.is("16 minutes", x.minutes(16), 2);
        due.is("4 and 15 off", x.of(0, 1), 1);
        due.is("the lamb saw 7", x.of(1, 2), 7);
        due.is("seen", x.of(0, 2), 16);
        due.is("wear, none by a lamb", x.manOf(0, 1), 16);
        due.is("one more", x.minutes(1), 3);
        due.is("none sees then", x.minutes(5), 3);
        due.is("seen stays", x.of(0, 2), 17);
        due.is("wear stays", x.manOf(0, 1), 17);
        due.is("the last all the same", x.now(1), 0);
        x.set(0, 1, 3);
        x.set(0, 2, 9999);
        x.dress(0, 0, 7);
        x.minutes(1);
        due.is("no less than 0", x.of(0, 1), 0);
        due.is("seen is held", x.of(0, 2), 9999);
    }

    private static void minutesOfABareMan() {
        FlockCounts x = new FlockCounts();
        for (int s = 0; s < 8; s++) {
            x.sheep(4);
        }
        x.man(1);
        x.man(1);
        x.dress(0, 1, 98);
        x.minutes(1);
        due.is("no more than 99", x.manOf(0, 1), 99);
        due.is("the other isn't worn", x.manOf(1, 1), 0);
        due.is("4 off", x.of(7, 1), 16);
        x.minutes(1);
        due.is("16 on, for eight", x.manOf(1, 1), 16);
        due.is("alike, at an odd minute", x.of(7, 1), 16);
        due.is("the last", x.now(1), 1);
        x.minutes(1);
        due.is("nobody passed", x.of(7, 1), 18);
        due.is("the last is none", x.now(1), -1);
        due.is("his turn went by", x.now(2), 1);
        due.is("he saw to nobody", x.of(7, 2), 2);
        x.minutes(1);
        due.is("all unlike, at an odd minute", x.of(7, 1), 15);
    }

    private static void minutesOfWaker() {
        FlockCounts x = new FlockCounts();
        x.sheep(4);
        x.man(2);
        int[] wants = {15, 14, 12, 11, 9};
        for (int i = 0; i < wants.length; i++) {
            x.minutes(1);
            due.is("waker after " + (i + 1), x.of(0, 1), wants[i]);
        }
        due.is("wear", x.manOf(0, 1), 10);
    }

    /** More calls than are promised: else MINUTE never comes near 99999, and STATE could not be seen at all. */
    private static void minutesAtTheEnd() {
        FlockCounts x = new FlockCounts();
        for (int i = 0; i < 999; i++) {
            x.minutes(100);
        }
        due.is("minutes(100) at 99900", x.minutes(100), Due.STATE);
        due.is("minutes(101) at 99900", x.minutes(101), Due.BEYOND);
        due.is("minute", x.now(0), 99900);
        due.is("minutes(99)", x.minutes(99), 0);
        due.is("minutes(1) at 99999", x.minutes(1), Due.STATE);
        due.is("minute", x.now(0), 99999);
        due.is("status STATE", x.status(4), 2);
    }

    private static void now() {
        FlockCounts x = new FlockCounts();
        x.sheep(0);
        x.sheep(1);
        x.sheep(2);
        x.set(1, 1, 0);
        x.set(2, 1, 7);
        x.man(5);
        x.man(6);
        x.man(0);
        x.dress(0, 1, 99);
        x.dress(2, 1, 98);
        int[] due0 = {0, -1, 0, 2, 27, 197, 6};
        for (int what = 0; what < due0.length; what++) {
            due.is("now(" + what + ")", x.now(what), due0[what]);
        }
        x.minutes(2);
        int[] due2 = {2, 6, 2, 2, 17, 199, 6};
        for (int what = 0; what < due2.length; what++) {
            due.is("now(" + what + ") later", x.now(what), due2[what]);
        }
        x.dress(0, 1, 98);
        x.dress(2, 1, 99);
        due.is("others can pass", x.now(6), 3);
        due.is("now(-1)", x.now(-1), Due.BEYOND);
        due.is("now(7)", x.now(7), Due.BEYOND);
    }

    private static void on() {
        FlockCounts x = new FlockCounts();
        due.is("on of none", x.on(0, 0, 0), Due.BEYOND);
        x.sheep(0);
        x.set(0, 1, 99);
        x.set(0, 2, 9990);
        x.man(0);
        due.is("on(0, 0, 0)", x.on(0, 0, 0), 99);
        due.is("on(0, 0, 1)", x.on(0, 0, 1), 9990);
        due.is("on(0, 1, 0)", x.on(0, 1, 0), 95);
        due.is("on(0, 1, 1)", x.on(0, 1, 1), 9991);
        due.is("on(0, 95, 0)", x.on(0, 95, 0), 1);
        due.is("on(0, 100, 0)", x.on(0, 100, 0), 0);
        due.is("on(0, 100, 1)", x.on(0, 100, 1), 9999);
        due.is("on(0, 101, 0)", x.on(0, 101, 0), Due.BEYOND);
        due.is("on(0, -1, 0)", x.on(0, -1, 0), Due.BEYOND);
        due.is("on(0, 1, 2)", x.on(0, 1, 2), Due.BEYOND);
        due.is("on(0, 1, -1)", x.on(0, 1, -1), Due.BEYOND);
        due.is("on(1, 1, 0)", x.on(1, 1, 0), Due.BEYOND);
        due.is("on(-1, 1, 0)", x.on(-1, 1, 0), Due.BEYOND);
        due.is("nothing changed: wants", x.of(0, 1), 99);
        due.is("nothing changed: seen", x.of(0, 2), 9990);
        due.is("nothing changed: wear", x.manOf(0, 1), 0);
        due.is("nothing changed: minute", x.now(0), 0);
    }

    private static void worn() {
        FlockCounts x = new FlockCounts();
        due.is("worn of none", x.worn(0, 0), Due.BEYOND);
        x.man(0);
        x.man(0);
        x.sheep(3);
        x.sheep(4);
        x.dress(1, 1, 10);
        due.is("worn(1, 0)", x.worn(1, 0), 10);
        due.is("worn(1, 1)", x.worn(1, 1), 10);
        due.is("worn(0, 1)", x.worn(0, 1), 3);
        due.is("worn(1, 2)", x.worn(1, 2), 13);
        due.is("worn(0, 100)", x.worn(0, 100), 84);
        due.is("worn(0, 101)", x.worn(0, 101), Due.BEYOND);
        due.is("worn(0, -1)", x.worn(0, -1), Due.BEYOND);
        due.is("worn(2, 1)", x.worn(2, 1), Due.BEYOND);
        due.is("worn(-1, 1)", x.worn(-1, 1), Due.BEYOND);
        due.is("nothing changed", x.manOf(0, 1), 0);
    }

    private static void sleepsAndQuiet() {
        FlockCounts x = slowEwe(50, 1);
        due.is("sleeps at 200", x.sleeps(0), 200);
        due.is("quiet at 200", x.quiet(), 200);
        x = slowEwe(54, 0);
        due.is("sleeps at 201", x.sleeps(0), Due.NONE);
        due.is("quiet at 201", x.quiet(), Due.NONE);
        due.is("sleeps(1)", x.sleeps(1), Due.BEYOND);
        due.is("sleeps(-1)", x.sleeps(-1), Due.BEYOND);
        x.set(0, 1, 4);
        x.sheep(0);
        due.is("the ewe in 1", x.sleeps(0), 1);
        due.is("the sheep in 17", x.sleeps(1), 17);
        due.is("not both at once", x.quiet(), 17);
        x.set(1, 1, 8);
        due.is("the sheep in 5", x.sleeps(1), 5);
        due.is("the ewe again", x.quiet(), 5);
        due.is("status NONE", x.status(3), 2);
        due.is("quiet without sheep", new FlockCounts().quiet(), 0);
    }

    private static void bare() {
        FlockCounts x = new FlockCounts();
        due.is("bare of none", x.bare(0), Due.BEYOND);
        for (int m = 0; m < 4; m++) {
            x.man(0);
        }
        x.sheep(3);
        x.dress(0, 1, 48);
        x.dress(1, 1, 99);
        x.dress(1, 1, 98);
        x.dress(3, 1, 49);
        due.is("bare at 2", x.bare(1), 2);
        x.dress(1, 1, 0);
        due.is("bare at 201", x.bare(0), Due.NONE);
        due.is("bare at 200", x.bare(3), 200);
        x.dress(2, 1, 99);
        due.is("bare now", x.bare(2), 0);
        due.is("bare(4)", x.bare(4), Due.BEYOND);
        due.is("bare(-1)", x.bare(-1), Due.BEYOND);
    }
}
