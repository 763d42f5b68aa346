/** Boundary cases of promises 13 to 19: minutes. */
public final class MinutesEdgesTest {
    private static final Edges edges = new Edges("MinutesEdgesTest", 13, 19);
    private static final Scene EMPTY = new Scene();
    private static final Scene BUSY = Scene.busy();
    private static final Scene FULL = Scene.full();
    /** He takes 4 off, then 1 a minute, and wears by 1: the sheep sleeps in 96. */
    private static final Scene LONG = EMPTY.man(0, 0).sheep(0, 99);
    /** He wears by 2 a minute, and is bare in 50. */
    private static final Scene WEARING = EMPTY.man(0, 0).sheep(4, 99);
    /** Four alike men and a wether that never sleeps: each wears by 1 in four minutes. */
    private static final Scene ALIKE = EMPTY.man(0, 48).men(2, 0, 0).man(0, 49).sheep(3, 20);

    public static void main(String[] args) {
        minutesMade();
        minutesRefused();
        minutesAtTheEnd();
        whoPasses();
        whatIsTakenOff();
        whatIsSeen();
        whatWears();
        whatWakes();
        whoseTurn();
        now();
        nowAtTheEdges();
        on();
        worn();
        sleeps();
        quiet();
        bare();
        edges.end();
    }

    private static void minutesMade() {
        edges.sentence(13, "n MINUTES go (1 to 100): those that SLEEP then, as a set.");
        edges.does("minutes(1) of nobody", 0, EMPTY, x -> x.minutes(1), "minute 1");
        edges.does("minutes(100) of nobody", 0, EMPTY, x -> x.minutes(100), "minute 100");
        edges.does("minutes(1)", 0, BUSY, x -> x.minutes(1), "minute 2", "last -1", "turn 2", "sheep 0 wants 46",
            "sheep 1 wants 2");
        edges.does("minutes(95)", 0, LONG, x -> x.minutes(95), "minute 95", "last 0", "sheep 0 wants 1",
            "sheep 0 seen 95", "man 0 wear 95");
        edges.does("minutes(96)", 1, LONG, x -> x.minutes(96), "minute 96", "last 0", "sheep 0 wants 0",
            "sheep 0 seen 96", "man 0 wear 96");
        edges.does("minutes(100)", 1, LONG, x -> x.minutes(100), "minute 100", "last 0", "sheep 0 wants 0",
            "sheep 0 seen 96", "man 0 wear 96");
        edges.does("all eight sleep", 255, EMPTY.flock(8, 0, 0), x -> x.minutes(1), "minute 1");
        edges.does("the 8th sleeps", 128, EMPTY.flock(7, 0, 1).sheep(0, 0), x -> x.minutes(1), "minute 1");
    }

    private static void minutesRefused() {
        edges.sentence(13, "BEYOND.");
        edges.refusedOutside("minutes", 1, 100, EMPTY, (x, v) -> x.minutes(v));
        edges.refusedOutside("minutes", 1, 100, BUSY, (x, v) -> x.minutes(v));
        edges.refusedOutside("minutes", 1, 100, FULL, (x, v) -> x.minutes(v));
    }

    private static Scene at(int minute) {
        return EMPTY.then(x -> {
            for (int left = minute; left > 0; left -= 100) {
                x.minutes(Math.min(left, 100));
            }
        });
    }

    /** More calls than are promised: else MINUTE never comes near 99999, and STATE could not be seen at all. */
    private static void minutesAtTheEnd() {
        edges.sentence(13, "STATE: MINUTE would be above 99999.");
        edges.does("minutes(100) at 99899", 0, at(99899), x -> x.minutes(100), "minute 99999");
        edges.refused("minutes(100) at 99900", Due.STATE, at(99900), x -> x.minutes(100));
        edges.does("minutes(99) at 99900", 0, at(99900), x -> x.minutes(99), "minute 99999");
        edges.does("minutes(1) at 99998", 0, at(99998), x -> x.minutes(1), "minute 99999");
        edges.refused("minutes(2) at 99998", Due.STATE, at(99998), x -> x.minutes(2));
        edges.refused("minutes(1) at 99999", Due.STATE, at(99999), x -> x.minutes(1));
        edges.sentence(13, "BEYOND. STATE:");
        edges.refusedOutside("minutes at 99999", 1, 100, at(99999), (x, v) -> x.minutes(v));
        edges.sentence(Edges.TERMS, "ON: n MINUTES go on with all as it is; nothing changes.");
        edges.tells("on(0, 100, 0) at 99999", 0, at(99999).man(0, 0).sheep(0, 99), x -> x.on(0, 100, 0));
    }

    private static void whoPasses() {
        edges.sentence(Edges.TERMS, "one of a WEAR of 99 doesn't pass (his turn goes by)");
        edges.does("at a wear of 97", 0, EMPTY.man(0, 97).sheep(0, 20), x -> x.minutes(1), "minute 1", "last 0",
            "man 0 wear 98", "sheep 0 wants 16", "sheep 0 seen 1");
        edges.does("at a wear of 98", 0, EMPTY.man(0, 98).sheep(0, 20), x -> x.minutes(1), "minute 1", "last 0",
            "man 0 wear 99", "sheep 0 wants 16", "sheep 0 seen 1");
        edges.does("at a wear of 99", 0, EMPTY.man(0, 99).sheep(0, 20), x -> x.minutes(1), "minute 1");
        edges.does("at a wear of 99, of two", 0, EMPTY.man(0, 99).man(1, 0).sheep(0, 20), x -> x.minutes(1),
            "minute 1", "turn 1");
        edges.does("at a wear of 99, of two, two minutes", 0, EMPTY.man(0, 99).man(1, 0).sheep(0, 20),
            x -> x.minutes(2), "minute 2", "last 1", "man 1 wear 1", "sheep 0 wants 16", "sheep 0 seen 1");
        edges.sentence(Edges.TERMS, "and THE LAST is -1. MINUTE is 1 more.");
        edges.does("THE LAST was 7", 0, EMPTY.man(7, 97).sheep(0, 99).minutes(2), x -> x.minutes(1), "minute 3",
            "last -1");
        edges.does("THE LAST was 7, all went home", 0, EMPTY.sheep(0, 99).then(x -> {
            x.man(7);
            x.minutes(1);
            x.goesHome();
        }), x -> x.minutes(1), "minute 2", "last -1");
        edges.sentence(Edges.TERMS, "then THE LAST is his GUISE.");
        edges.does("nobody is there to see", 0, EMPTY.man(7, 5), x -> x.minutes(1), "minute 1", "last 7");
    }

    private static void takenOff(int wants, int left) {
        edges.does("4 off " + wants, left == 0 ? 1 : 0, EMPTY.man(0, 0).sheep(0, wants), x -> x.minutes(1), "minute 1",
            "last 0", "man 0 wear 1", "sheep 0 wants " + left, "sheep 0 seen 1");
    }

    private static void whatIsTakenOff() {
        edges.sentence(Edges.TERMS, "WANTS is what it COUNTS less (0 at least)");
        takenOff(99, 95);
        takenOff(5, 1);
        takenOff(4, 0);
        takenOff(3, 0);
        takenOff(1, 0);
        edges.does("8 off 8 and 7 and 9", 3, EMPTY.man(0, 0).sheep(2, 8).sheep(2, 7).sheep(2, 9), x -> x.minutes(1),
            "minute 1", "last 0", "sheep 0 wants 0", "sheep 0 seen 1", "sheep 1 wants 0", "sheep 1 seen 1",
            "sheep 2 wants 1", "sheep 2 seen 1");
        edges.does("0 off a wether, that sees it", 0, EMPTY.man(0, 0).sheep(3, 9).minutes(1), x -> x.minutes(1),
            "minute 2", "man 0 wear 2", "sheep 0 seen 2");
    }

    private static void seen(int was, String... changes) {
        String[] all = java.util.Arrays.copyOf(changes, changes.length + 4);
        String[] always = {"minute 1", "last 0", "man 0 wear 1", "sheep 0 wants 46"};
        System.arraycopy(always, 0, all, changes.length, always.length);
        edges.does("seen " + was, 0, EMPTY.man(0, 0).sheep(0, 50, was), x -> x.minutes(1), all);
    }

    private static void whatIsSeen() {
        edges.sentence(Edges.TERMS, "0 at first, held to 9999");
        seen(0, "sheep 0 seen 1");
        seen(9997, "sheep 0 seen 9998");
        seen(9998, "sheep 0 seen 9999");
        seen(9999);
        edges.sentence(Edges.TERMS, "(One that SLEEPS doesn't see.)");
        edges.does("at 0", 1, EMPTY.man(3, 7).sheep(0, 0, 5), x -> x.minutes(1), "minute 1", "last 3");
        edges.does("at 1", 1, EMPTY.man(3, 7).sheep(0, 1, 5), x -> x.minutes(1), "minute 1", "last 3", "man 0 wear 8",
            "sheep 0 wants 0", "sheep 0 seen 6");
    }

    private static void worn(int wear, int sheep, int then) {
        Scene scene = EMPTY.man(0, wear).flock(sheep, 4, 99);
        String by = " of a wear of " + wear + " by " + sheep + " wakers";
        edges.tells("worn(0, 1)" + by, then, scene, x -> x.worn(0, 1));
        edges.tells("manOf(0, 1)" + by, then, scene.minutes(1), x -> x.manOf(0, 1));
    }

    private static void whatWears() {
        edges.sentence(Edges.TERMS, "his WEAR what it TIRES more (99 at most, all together)");
        worn(96, 1, 98);
        worn(97, 1, 99);
        worn(98, 1, 99);
        worn(82, 8, 98);
        worn(83, 8, 99);
        worn(84, 8, 99);
        worn(98, 8, 99);
        edges.tells("a wear of 98 by lambs", 98, EMPTY.man(0, 98).flock(8, 2, 99).minutes(2), x -> x.manOf(0, 1));
    }

    private static void woken(int kind, int wants, String... changes) {
        String[] all = java.util.Arrays.copyOf(changes, changes.length + 1);
        all[changes.length] = "minute 1";
        edges.does("kind " + kind + " at " + wants, wants == 0 && changes.length == 0 ? 1 : 0,
            EMPTY.sheep(kind, wants), x -> x.minutes(1), all);
    }

    private static void whatWakes() {
        edges.sentence(Edges.TERMS, "WAKES (how much more it WANTS, asleep or not, when nobody passes in a MINUTE)");
        for (int kind : new int[] {0, 3, 5}) {
            woken(kind, 0);
            woken(kind, 98);
        }
        woken(1, 0, "sheep 0 wants 1");
        woken(2, 0, "sheep 0 wants 2");
        woken(4, 0, "sheep 0 wants 2");
        edges.sentence(Edges.TERMS, "each SHEEP WANTS what it WAKES more (99 at most)");
        woken(1, 97, "sheep 0 wants 98");
        woken(1, 98, "sheep 0 wants 99");
        woken(1, 99);
        for (int kind : new int[] {2, 4}) {
            woken(kind, 96, "sheep 0 wants 98");
            woken(kind, 97, "sheep 0 wants 99");
            woken(kind, 98, "sheep 0 wants 99");
            woken(kind, 99);
        }
    }

    private static void whoseTurn() {
        edges.sentence(Edges.TERMS, "in turn by numbers (behind the last comes 0)");
        edges.does("the only one's", 0, EMPTY.man(0, 0), x -> x.minutes(1), "minute 1", "last 0");
        edges.does("the 5th of six", 0, EMPTY.men(6, 1, 0).first(4), x -> x.minutes(1), "minute 1", "last 1",
            "turn 5");
        edges.does("the 6th of six", 0, EMPTY.men(6, 1, 0).first(5), x -> x.minutes(1), "minute 1", "last 1",
            "turn 0");
        edges.does("the 6th of six, bare", 0, EMPTY.men(6, 1, 99).first(5), x -> x.minutes(1), "minute 1", "turn 0");
        edges.does("all six, once about", 0, EMPTY.men(6, 1, 0).first(3), x -> x.minutes(6), "minute 6", "last 1");
        edges.does("the 2nd of two", 0, EMPTY.men(2, 1, 0).first(1), x -> x.minutes(1), "minute 1", "last 1",
            "turn 0");
        edges.does("behind the 3rd comes a 4th that is new", 0, EMPTY.men(3, 1, 0).first(2).man(6, 0),
            x -> x.minutes(1), "minute 1", "last 1", "turn 3");
    }

    private static void nows(String when, Scene scene, int... wants) {
        for (int what = 0; what < wants.length; what++) {
            int asked = what;
            edges.tells("now(" + what + ") " + when, wants[what], scene, x -> x.now(asked));
        }
    }

    private static void now() {
        edges.sentence(14, "What 0 MINUTE, 1 THE LAST, 2 TURN (-1: there are no MEN)");
        nows("of nobody", EMPTY, 0, -1, -1, 0, 0, 0, 0);
        nows("of no men", EMPTY.sheep(0, 1).minutes(1), 1, -1, -1, 0, 1, 0, 0);
        nows("of no men any more", EMPTY.man(7, 5).minutes(1).then(x -> x.goesHome()), 1, 7, -1, 0, 0, 0, 0);
        nows("of no sheep", EMPTY.man(5, 1).man(5, 2), 0, -1, 0, 0, 0, 3, 3);
        nows("of three and three", BUSY, 1, 3, 1, 2, 69, 152, 5);
        edges.sentence(14, "BEYOND.");
        edges.refusedOutside("now", 0, 6, EMPTY, (x, v) -> x.now(v));
        edges.refusedOutside("now", 0, 6, BUSY, (x, v) -> x.now(v));
    }

    private static void nowAtTheEdges() {
        edges.sentence(14, "3 those that SLEEP, as a set, 4 WANTS of all together, 5 WEAR of all MEN together");
        nows("at the most", EMPTY.flock(8, 1, 99).men(6, 0, 99).first(5), 0, -1, 5, 0, 792, 594, 0);
        nows("at the least", EMPTY.flock(8, 1, 0).men(6, 0, 0), 0, -1, 0, 255, 0, 0, 63);
        nows("next to the least", EMPTY.flock(8, 1, 1).men(6, 0, 1), 0, -1, 0, 0, 8, 6, 63);
        edges.sentence(14, "6 MEN that can pass, as a set.");
        edges.tells("a wear of 98", 1, EMPTY.man(0, 98), x -> x.now(6));
        edges.tells("a wear of 99", 0, EMPTY.man(0, 99), x -> x.now(6));
        edges.tells("the 6th alone", 32, EMPTY.men(5, 0, 99).man(0, 98), x -> x.now(6));
    }

    private static void on() {
        edges.sentence(15, "WANTS (what 0), SEEN (1) of one ON n MINUTES (0 to 100).");
        int[][] due = {{0, 99, 0}, {1, 95, 1}, {49, 71, 49}, {50, 71, 50}, {51, 73, 50}, {63, 97, 50}, {64, 99, 50},
            {65, 99, 50}, {99, 99, 50}, {100, 99, 50}};
        for (int[] row : due) {
            edges.tells("on(0, " + row[0] + ", 0)", row[1], WEARING, x -> x.on(0, row[0], 0));
            edges.tells("on(0, " + row[0] + ", 1)", row[2], WEARING, x -> x.on(0, row[0], 1));
        }
        edges.tells("on(0, 95, 0), next to sleep", 1, LONG, x -> x.on(0, 95, 0));
        edges.tells("on(0, 96, 0), asleep", 0, LONG, x -> x.on(0, 96, 0));
        edges.tells("on(0, 100, 1), asleep", 96, LONG, x -> x.on(0, 100, 1));
        edges.tells("on(0, 9, 1), held", 9999, EMPTY.man(0, 0).sheep(0, 99, 9991), x -> x.on(0, 9, 1));
        edges.tells("on(0, 7, 1), not held", 9998, EMPTY.man(0, 0).sheep(0, 99, 9991), x -> x.on(0, 7, 1));
        edges.tells("on(7, 0, 0), the 8th", 17, EMPTY.flock(7, 0, 1).sheep(0, 17), x -> x.on(7, 0, 0));
        edges.tells("on(2, 1, 1)", 9001, BUSY, x -> x.on(2, 1, 1));

        edges.sentence(15, "BEYOND.");
        edges.refusedOutside("on(0, v, 0)", 0, 100, BUSY, (x, v) -> x.on(0, v, 0));
        edges.refusedOutside("on(0, v, 1)", 0, 100, FULL, (x, v) -> x.on(0, v, 1));
        edges.refusedOutside("on(v, 1, 0) of three", 0, 2, BUSY, (x, v) -> x.on(v, 1, 0));
        edges.refusedOutside("on(v, 1, 0) of eight", 0, 7, FULL, (x, v) -> x.on(v, 1, 0));
        edges.refusedOutside("on(0, 1, v)", 0, 1, BUSY, (x, v) -> x.on(0, 1, v));
        edges.refused("on(0, 0, 0) of none", Due.BEYOND, EMPTY, x -> x.on(0, 0, 0));
    }

    private static void worn() {
        edges.sentence(16, "WEAR of a man ON n MINUTES (0 to 100).");
        int[][] due = {{0, 0}, {1, 2}, {48, 96}, {49, 98}, {50, 99}, {51, 99}, {99, 99}, {100, 99}};
        for (int[] row : due) {
            edges.tells("worn(0, " + row[0] + ")", row[1], WEARING, x -> x.worn(0, row[0]));
        }
        edges.tells("worn(0, 100), the sheep sleeps in 96", 96, LONG, x -> x.worn(0, 100));
        edges.tells("worn(1, 100), bare already", 99, BUSY, x -> x.worn(1, 100));
        edges.tells("worn(5, 0), the 6th", 50, FULL, x -> x.worn(5, 0));
        edges.sentence(16, "BEYOND.");
        edges.refusedOutside("worn(0, v)", 0, 100, BUSY, (x, v) -> x.worn(0, v));
        edges.refusedOutside("worn(v, 1) of three", 0, 2, BUSY, (x, v) -> x.worn(v, 1));
        edges.refusedOutside("worn(v, 1) of six", 0, 5, FULL, (x, v) -> x.worn(v, 1));
        edges.refused("worn(0, 0) of none", Due.BEYOND, EMPTY, x -> x.worn(0, 0));
    }

    private static void sleeps() {
        Scene beyond = Scene.asleepIn201();
        edges.sentence(17, "In how many MINUTES (0 to 200) ON one SLEEPS first.");
        edges.tells("asleep now", 0, BUSY, x -> x.sleeps(1));
        edges.tells("in 1", 1, EMPTY.man(0, 0).sheep(0, 4), x -> x.sleeps(0));
        edges.tells("in 2", 2, EMPTY.man(0, 0).sheep(0, 5), x -> x.sleeps(0));
        edges.tells("in 199", 199, beyond.minutes(2), x -> x.sleeps(0));
        edges.tells("in 200", 200, beyond.minutes(1), x -> x.sleeps(0));
        edges.tells("the 8th", 1, beyond.flock(7, 0, 4), x -> x.sleeps(7));
        edges.tells("it wakes again: first", 1, EMPTY.man(0, 0).man(0, 99).sheep(1, 4), x -> x.sleeps(0));
        edges.sentence(17, "NONE.");
        edges.refused("in 201", Due.NONE, beyond, x -> x.sleeps(0));
        edges.refused("never", Due.NONE, EMPTY.sheep(0, 1), x -> x.sleeps(0));
        edges.sentence(17, "BEYOND.");
        edges.refusedOutside("sleeps of three", 0, 2, BUSY, (x, v) -> x.sleeps(v));
        edges.refusedOutside("sleeps of eight", 0, 7, FULL, (x, v) -> x.sleeps(v));
        edges.refused("sleeps(0) of none", Due.BEYOND, EMPTY, x -> x.sleeps(0));
    }

    private static void quiet() {
        Scene beyond = Scene.asleepIn201();
        edges.sentence(18, "In how many MINUTES (0 to 200) ON it is QUIET first.");
        edges.tells("quiet now", 0, EMPTY.man(0, 0).flock(8, 4, 0), x -> x.quiet());
        edges.tells("in 1", 1, EMPTY.man(0, 0).flock(8, 0, 4), x -> x.quiet());
        edges.tells("the 8th in 2", 2, EMPTY.man(0, 0).flock(7, 0, 4).sheep(0, 5), x -> x.quiet());
        edges.tells("in 199", 199, beyond.minutes(2), x -> x.quiet());
        edges.tells("in 200", 200, beyond.minutes(1), x -> x.quiet());
        edges.sentence(Edges.TERMS, "QUIET: all SHEEP SLEEP (also if there are none).");
        edges.tells("nobody there", 0, EMPTY, x -> x.quiet());
        edges.tells("no sheep there", 0, EMPTY.man(0, 0), x -> x.quiet());
        edges.tells("at once, not in turn", 5, EMPTY.man(0, 0).men(3, 0, 99).sheep(1, 4).sheep(0, 8), x -> x.quiet());
        edges.sentence(18, "NONE.");
        edges.refused("in 201", Due.NONE, beyond, x -> x.quiet());
        edges.refused("one of eight never", Due.NONE, EMPTY.flock(7, 0, 0).sheep(0, 1), x -> x.quiet());
    }

    private static void bare() {
        edges.sentence(19, "In how many MINUTES (0 to 200) ON a man has a WEAR of 99 first.");
        edges.tells("bare now", 0, BUSY, x -> x.bare(1));
        edges.tells("at 98", 1, EMPTY.man(0, 98).sheep(0, 9), x -> x.bare(0));
        edges.tells("at 97", 2, EMPTY.man(0, 97).sheep(0, 9), x -> x.bare(0));
        edges.tells("in 199", 199, ALIKE.minutes(1), x -> x.bare(3));
        edges.tells("in 200", 200, ALIKE, x -> x.bare(3));
        edges.tells("in 200 by then", 200, ALIKE.minutes(1), x -> x.bare(0));
        edges.sentence(19, "NONE.");
        edges.refused("in 201", Due.NONE, ALIKE, x -> x.bare(0));
        edges.refused("at 98 with no sheep", Due.NONE, EMPTY.man(0, 98), x -> x.bare(0));
        edges.refused("at 98 with lambs", Due.NONE, EMPTY.man(0, 98).sheep(2, 99), x -> x.bare(0));
        edges.sentence(19, "BEYOND.");
        edges.refusedOutside("bare of three", 0, 2, BUSY, (x, v) -> x.bare(v));
        edges.refusedOutside("bare of six", 0, 5, FULL, (x, v) -> x.bare(v));
        edges.refused("bare(0) of none", Due.BEYOND, EMPTY, x -> x.bare(0));
    }
}
