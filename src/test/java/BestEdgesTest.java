/** Boundary cases of promises 20 to 27: what is best. */
public final class BestEdgesTest {
    private static final Edges edges = new Edges("BestEdgesTest", 20, 27);
    private static final Scene EMPTY = new Scene();
    private static final Scene BUSY = Scene.busy();
    private static final Scene FULL = Scene.full();
    /** One of five can pass; a sheep loses 4 in each round. */
    private static final Scene FIVE = EMPTY.man(0, 0).men(4, 0, 99);

    public static void main(String[] args) {
        guise();
        guises();
        guisesRefused();
        swapTold();
        swapRefused();
        spareByWear();
        spareByMinutes();
        spareRefused();
        kind();
        mostTold();
        mostRefused();
        begin();
        lastTold();
        lastRefused();
        edges.end();
    }

    private static void guise() {
        edges.sentence(20,
            "The GUISE of a man in which it is QUIET soonest (within 100 MINUTES); of several the least.");
        edges.tells("in 99", 0, Scene.quietIn(99), x -> x.guise(0));
        edges.tells("in 100", 0, Scene.quietIn(100), x -> x.guise(0));
        edges.tells("in 100 by then", 0, Scene.quietIn(101).minutes(1), x -> x.guise(0));
        edges.tells("quiet now", 0, EMPTY.man(5, 0).sheep(0, 0), x -> x.guise(0));
        edges.tells("no sheep", 0, EMPTY.man(5, 0), x -> x.guise(0));
        edges.tells("the greatest", 7, EMPTY.man(0, 0).sheep(0, 8).minutes(1), x -> x.guise(0));
        edges.tells("the least of those that are unlike in two", 3, EMPTY.man(0, 0).sheep(0, 7).minutes(1),
            x -> x.guise(0));
        edges.tells("the least", 0, EMPTY.man(7, 0).sheep(0, 8).minutes(1), x -> x.guise(0));
        edges.tells("no more than 4 off 5", 0, EMPTY.man(7, 0).sheep(0, 9).minutes(1), x -> x.guise(0));
        edges.tells("the 6th", 7, EMPTY.men(6, 0, 0).sheep(0, 8).minutes(1).first(5), x -> x.guise(5));
        edges.tells("one who can't pass", 0, EMPTY.man(0, 0).man(1, 99).sheep(0, 4), x -> x.guise(1));
        edges.sentence(20, "NONE.");
        edges.refused("in 101", Due.NONE, Scene.quietIn(101), x -> x.guise(0));
        edges.refused("one who can't pass", Due.NONE, EMPTY.man(1, 99).sheep(0, 1), x -> x.guise(0));
        edges.sentence(20, "BEYOND.");
        edges.refusedOutside("guise of three", 0, 2, BUSY, (x, v) -> x.guise(v));
        edges.refusedOutside("guise of six", 0, 5, FULL, (x, v) -> x.guise(v));
        edges.refused("guise(0) of none", Due.BEYOND, EMPTY, x -> x.guise(0));
    }

    private static void guises() {
        Scene between = EMPTY.men(3, 0, 0).sheep(0, 18).minutes(3);
        edges.sentence(21, "with which it is QUIET soonest (within 60 MINUTES)");
        edges.tells("in 59", 0, Scene.quietIn(59), x -> x.guises(0, 1));
        edges.tells("in 60", 0, Scene.quietIn(60), x -> x.guises(0, 1));
        edges.tells("in 60, both can't pass", 0, Scene.quietIn(60), x -> x.guises(4, 5));
        edges.tells("in 60 by then", 0, Scene.quietIn(61).minutes(1), x -> x.guises(1, 0));
        edges.tells("quiet now", 0, EMPTY.man(5, 0).man(6, 0).sheep(4, 0), x -> x.guises(0, 1));
        edges.tells("no sheep", 0, EMPTY.man(5, 0).man(6, 0), x -> x.guises(0, 1));
        edges.sentence(21, "8 times the first one's and the other one's; of several the least.");
        edges.tells("the greatest", 63, between, x -> x.guises(0, 2));
        edges.tells("the greatest, the other way about", 63, between, x -> x.guises(2, 0));
        edges.tells("the least of eight", 7, EMPTY.men(2, 0, 0).sheep(0, 8), x -> x.guises(0, 1));
        edges.tells("no more than 4 off 5", 0, EMPTY.men(2, 7, 0).sheep(0, 10).minutes(2), x -> x.guises(0, 1));
        edges.tells("the first one's", 56, EMPTY.men(2, 0, 0).sheep(0, 9).minutes(2), x -> x.guises(0, 1));
        edges.tells("the other one's", 7, EMPTY.men(2, 0, 0).sheep(0, 9).minutes(2), x -> x.guises(1, 0));
    }

    private static void guisesRefused() {
        edges.sentence(21, "BEYOND: also one and the same.");
        edges.refused("guises(0, 0)", Due.BEYOND, BUSY, x -> x.guises(0, 0));
        edges.refused("guises(2, 2)", Due.BEYOND, BUSY, x -> x.guises(2, 2));
        edges.refused("guises(5, 5)", Due.BEYOND, FULL, x -> x.guises(5, 5));
        edges.refused("guises(0, 0) of one", Due.BEYOND, EMPTY.man(0, 0), x -> x.guises(0, 0));
        edges.refused("guises(0, 1) of one", Due.BEYOND, EMPTY.man(0, 0), x -> x.guises(0, 1));
        edges.refused("guises(0, 1) of none", Due.BEYOND, EMPTY, x -> x.guises(0, 1));
        edges.refusedOutside("guises(v, 0) of three", 0, 2, BUSY, (x, v) -> x.guises(v, 0));
        edges.refusedOutside("guises(0, v) of three", 0, 2, BUSY, (x, v) -> x.guises(0, v));
        edges.refusedOutside("guises(v, 5) of six", 0, 5, FULL, (x, v) -> x.guises(v, 5));
        edges.refusedOutside("guises(5, v) of six", 0, 5, FULL, (x, v) -> x.guises(5, v));
        edges.refusedOutside("guises(v, v)", 0, 2, BUSY, (x, v) -> x.guises(v, v));
        edges.sentence(21, "NONE.");
        edges.refused("in 61", Due.NONE, Scene.quietIn(61), x -> x.guises(0, 1));
        edges.refused("in 61, both can't pass", Due.NONE, Scene.quietIn(61), x -> x.guises(4, 5));
        edges.refused("never", Due.NONE, EMPTY.men(2, 0, 99).sheep(0, 1), x -> x.guises(0, 1));
    }

    private static void swapTold() {
        Scene hundred = EMPTY.man(1, 1).men(2, 1, 99).sheep(1, 69).first(1);
        edges.sentence(22, "let it be QUIET soonest (within 100 MINUTES), sooner than as it is");
        edges.tells("105 as it is, 100 then", 1, hundred, x -> x.swap());
        edges.tells("100 as it is, 96 then", 1, FIVE.sheep(0, 80).first(1), x -> x.swap());
        edges.tells("98 as it is, 97 then", 5, Scene.quietIn(98), x -> x.swap());
        edges.tells("never as it is, 1 then", 1, EMPTY.man(0, 98).man(0, 99).sheep(1, 4).first(1), x -> x.swap());
        edges.sentence(22, "10 times the lesser and the other one; of several the least.");
        edges.tells("the least", 1, EMPTY.man(0, 0).men(5, 0, 99).sheep(0, 4).first(1), x -> x.swap());
        edges.tells("the greatest", 45, EMPTY.men(4, 0, 99).man(0, 0).man(0, 99).sheep(0, 4).first(5), x -> x.swap());
        edges.tells("one of several", 12, EMPTY.man(0, 99).man(0, 99).men(4, 0, 0).sheep(0, 4).first(1),
            x -> x.swap());
        // 4, 3, 2 off as it is, in turn 0, 3, 7; 4, 4, 2 off in turn 0, 7, 3
        Scene three = EMPTY.man(0, 0).man(3, 0).man(7, 0);
        edges.tells("guises go along: 3 as it is, 2 then", 12, three.sheep(0, 17).minutes(3), x -> x.swap());
        edges.tells("both ways: 4 as it is, 3 then", 12, three.sheep(0, 19).minutes(3), x -> x.swap());
    }

    private static void swapRefused() {
        edges.sentence(22, "NONE.");
        edges.refused("nobody there", Due.NONE, EMPTY, x -> x.swap());
        edges.refused("no men", Due.NONE, EMPTY.sheep(0, 9), x -> x.swap());
        edges.refused("one man", Due.NONE, EMPTY.man(0, 0).sheep(0, 9), x -> x.swap());
        edges.refused("two alike", Due.NONE, EMPTY.men(2, 3, 4).sheep(0, 9), x -> x.swap());
        edges.refused("quiet now", Due.NONE, EMPTY.man(0, 0).man(7, 99).sheep(0, 0), x -> x.swap());
        edges.refused("no sheep", Due.NONE, EMPTY.man(0, 0).man(7, 99), x -> x.swap());
        edges.refused("97 as it is, later then", Due.NONE, Scene.quietIn(97), x -> x.swap());
        edges.refused("105 as it is, 101 then", Due.NONE, FIVE.sheep(0, 81).first(1), x -> x.swap());
        edges.refused("101 as it is, none sooner", Due.NONE, FIVE.sheep(0, 81), x -> x.swap());
    }

    private static void spareByWear() {
        Scene bare = EMPTY.men(6, 0, 99);
        edges.sentence(23, "so that WEAR of all others together is w (0 to 594) or less ON n MINUTES (1 to 40)");
        edges.tells("594 of 594", 0, bare, x -> x.spare(1, 594));
        edges.tells("593 of 594", 1, bare, x -> x.spare(1, 593));
        edges.tells("495 of 594", 1, bare, x -> x.spare(1, 495));
        edges.tells("494 of 594", 3, bare, x -> x.spare(1, 494));
        edges.tells("99 of 594", 31, bare, x -> x.spare(40, 99));
        edges.tells("98 of 594", 63, bare, x -> x.spare(40, 98));
        edges.tells("0 of 594", 63, bare, x -> x.spare(40, 0));
        edges.tells("0 of 0", 0, EMPTY.men(6, 0, 0), x -> x.spare(40, 0));
        edges.tells("no men, 0", 0, EMPTY.sheep(0, 99), x -> x.spare(1, 0));
        edges.tells("no men, 594", 0, EMPTY, x -> x.spare(40, 594));
        edges.sentence(23, "The set of fewest men to stay out (as if their WEAR were 99 now)");
        edges.tells("one, the greatest", 4, EMPTY.men(2, 0, 10).man(0, 20), x -> x.spare(1, 20));
        edges.tells("one, of several the least", 1, EMPTY.men(2, 0, 10).man(0, 20), x -> x.spare(1, 30));
        edges.tells("two, of several the least", 5, EMPTY.men(2, 0, 10).man(0, 20), x -> x.spare(1, 10));
        edges.tells("the 6th", 32, EMPTY.men(5, 0, 0).man(0, 1), x -> x.spare(1, 0));
    }

    private static void spareByMinutes() {
        Scene one = EMPTY.man(0, 0).sheep(0, 99);
        edges.sentence(23, "ON n MINUTES (1 to 40)");
        edges.tells("1 in 1", 0, one, x -> x.spare(1, 1));
        edges.tells("0 in 1", 1, one, x -> x.spare(1, 0));
        edges.tells("39 in 39", 0, one, x -> x.spare(39, 39));
        edges.tells("39 in 40", 1, one, x -> x.spare(40, 39));
        edges.tells("40 in 40", 0, one, x -> x.spare(40, 40));
        // by turns they pass 3 and 2 times, one alone 5 times
        Scene two = EMPTY.man(0, 0).man(7, 0).sheep(0, 20);
        edges.tells("5 by turns", 0, two, x -> x.spare(40, 5));
        edges.tells("4, where one alone wears by 5", 3, two, x -> x.spare(40, 4));
        edges.tells("4 in 9, where one alone wears by 4", 1, two, x -> x.spare(9, 4));
    }

    private static void spareRefused() {
        edges.sentence(23, "BEYOND.");
        for (Scene scene : new Scene[] {EMPTY, BUSY, FULL}) {
            edges.refusedOutside("spare(v, 0)", 1, 40, scene, (x, v) -> x.spare(v, 0));
            edges.refusedOutside("spare(v, 594)", 1, 40, scene, (x, v) -> x.spare(v, 594));
            edges.refusedOutside("spare(1, v)", 0, 594, scene, (x, v) -> x.spare(1, v));
            edges.refusedOutside("spare(40, v)", 0, 594, scene, (x, v) -> x.spare(40, v));
        }
        // with all men out the others' WEAR is 0, and w is 0 at least
        edges.cannotBeMet(23, Due.NONE);
    }

    private static void kind() {
        edges.sentence(24, "The KIND as one of which one SLEEPS soonest (within 100 MINUTES); of several the least.");
        edges.tells("in 99", 0, Scene.quietIn(99), x -> x.kind(0));
        edges.tells("in 100", 0, Scene.quietIn(100), x -> x.kind(0));
        edges.tells("in 100 by then", 0, Scene.quietIn(101).minutes(1), x -> x.kind(0));
        edges.tells("asleep now", 0, BUSY, x -> x.kind(1));
        edges.tells("the greatest", 5, EMPTY.man(1, 0).men(2, 0, 99).sheep(0, 18), x -> x.kind(0));
        edges.tells("all alike", 0, EMPTY.man(0, 0).sheep(5, 4), x -> x.kind(0));
        edges.tells("as a lamb alone", 2, EMPTY.man(0, 0).sheep(5, 7), x -> x.kind(0));
        edges.tells("as an ewe and as a lamb", 1, EMPTY.man(2, 0).sheep(0, 50).minutes(1), x -> x.kind(0));
        edges.tells("the 8th", 2, EMPTY.man(0, 0).flock(8, 0, 8), x -> x.kind(7));
        edges.sentence(24, "NONE.");
        edges.refused("in 101", Due.NONE, Scene.quietIn(101), x -> x.kind(0));
        edges.refused("never", Due.NONE, EMPTY.sheep(0, 1), x -> x.kind(0));
        edges.refused("no kind of the six", Due.NONE, EMPTY.man(0, 98).men(4, 0, 99).sheep(0, 9), x -> x.kind(0));
        edges.sentence(24, "BEYOND.");
        edges.refusedOutside("kind of three", 0, 2, BUSY, (x, v) -> x.kind(v));
        edges.refusedOutside("kind of eight", 0, 7, FULL, (x, v) -> x.kind(v));
        edges.refused("kind(0) of none", Due.BEYOND, EMPTY, x -> x.kind(0));
    }

    private static void mostTold() {
        Scene alone = EMPTY.man(0, 0).sheep(0, 50);
        edges.sentence(25, "The greatest WANTS (0 to 99) with which one SLEEPS ON n MINUTES (1 to 100).");
        edges.tells("in 1", 4, alone, x -> x.most(0, 1));
        edges.tells("in 2", 5, alone, x -> x.most(0, 2));
        edges.tells("in 95", 98, alone, x -> x.most(0, 95));
        edges.tells("in 96", 99, alone, x -> x.most(0, 96));
        edges.tells("in 100", 99, alone, x -> x.most(0, 100));
        edges.tells("0 alone", 0, EMPTY.sheep(0, 50), x -> x.most(0, 100));
        edges.tells("the 8th", 8, EMPTY.man(0, 0).flock(7, 0, 50).sheep(2, 0), x -> x.most(7, 1));
        edges.tells("in 100, not in 99", 68, Scene.quietIn(100), x -> x.most(0, 100));
        edges.tells("in 99", 64, Scene.quietIn(100), x -> x.most(0, 99));
        edges.tells("it wakes, and sleeps again", 4, EMPTY.man(0, 0).man(0, 99).sheep(1, 9), x -> x.most(0, 1));
    }

    private static void mostRefused() {
        edges.sentence(25, "NONE.");
        edges.refused("it wakes", Due.NONE, EMPTY.sheep(1, 0), x -> x.most(0, 1));
        edges.refused("it wakes again", Due.NONE, EMPTY.man(0, 0).man(0, 99).sheep(1, 9), x -> x.most(0, 2));
        edges.sentence(25, "BEYOND.");
        edges.refusedOutside("most(0, v)", 1, 100, BUSY, (x, v) -> x.most(0, v));
        edges.refusedOutside("most(7, v)", 1, 100, FULL, (x, v) -> x.most(7, v));
        edges.refusedOutside("most(v, 1) of three", 0, 2, BUSY, (x, v) -> x.most(v, 1));
        edges.refusedOutside("most(v, 100) of eight", 0, 7, FULL, (x, v) -> x.most(v, 100));
        edges.refused("most(0, 1) of none", Due.BEYOND, EMPTY, x -> x.most(0, 1));
        edges.sentence(25, "BEYOND. NONE.");
        edges.refusedOutside("most(0, v), that wakes", 1, 100, EMPTY.sheep(1, 0), (x, v) -> x.most(0, v));
    }

    private static void begin() {
        Scene sixth = EMPTY.men(5, 0, 99).man(0, 0).sheep(0, 99).first(1);
        edges.sentence(26, "so that WANTS of all together is least ON n MINUTES (1 to 100); of several the least.");
        edges.tells("in 1", 5, sixth, x -> x.begin(1));
        edges.tells("in 99", 3, sixth, x -> x.begin(99));
        edges.tells("in 100", 2, sixth, x -> x.begin(100));
        edges.tells("one man", 0, EMPTY.man(0, 99).sheep(0, 9), x -> x.begin(1));
        edges.tells("six alike", 0, EMPTY.men(6, 0, 0).sheep(0, 99).first(3), x -> x.begin(1));
        edges.tells("no sheep", 0, EMPTY.men(6, 0, 0).first(3), x -> x.begin(100));
        edges.tells("all at the most", 0, EMPTY.men(2, 0, 99).flock(8, 4, 99), x -> x.begin(1));
        edges.sentence(26, "BEYOND.");
        edges.refusedOutside("begin", 1, 100, BUSY, (x, v) -> x.begin(v));
        edges.refusedOutside("begin", 1, 100, FULL, (x, v) -> x.begin(v));
        edges.sentence(26, "NONE: there are no MEN.");
        edges.refused("begin(1)", Due.NONE, EMPTY, x -> x.begin(1));
        edges.refused("begin(100)", Due.NONE, EMPTY.sheep(0, 9), x -> x.begin(100));
        edges.refused("all went home", Due.NONE, EMPTY.man(0, 0).then(x -> x.goesHome()), x -> x.begin(1));
        edges.sentence(26, "BEYOND. NONE: there are no MEN.");
        edges.refusedOutside("begin of none", 1, 100, EMPTY, (x, v) -> x.begin(v));
    }

    private static void lastTold() {
        Scene beyond = Scene.asleepIn201();
        // he has to pass 50 times by two that see him
        Scene within = beyond.minutes(1).then(x -> x.dress(0, 1, 0));
        edges.sentence(27,
            "Who SLEEPS last (ON, first time; within 200 MINUTES; one that doesn't at all later than all)");
        edges.tells("the only one", 0, EMPTY.sheep(0, 0), x -> x.last());
        edges.tells("the only one, never", 0, EMPTY.sheep(0, 1), x -> x.last());
        edges.tells("all eight now", 0, EMPTY.flock(8, 0, 0), x -> x.last());
        edges.tells("all eight never", 0, EMPTY.flock(8, 0, 1), x -> x.last());
        edges.tells("the 8th in 2, others in 1", 7, EMPTY.man(0, 0).flock(7, 0, 4).sheep(0, 5), x -> x.last());
        edges.tells("the 8th in 1, others now", 7, EMPTY.man(0, 0).flock(7, 0, 0).sheep(0, 4), x -> x.last());
        edges.tells("200 and 196", 0, within.sheep(1, 49), x -> x.last());
        edges.tells("200 and 200", 0, within.sheep(1, 50), x -> x.last());
        edges.tells("200 and 204", 1, within.sheep(1, 51), x -> x.last());
        edges.tells("200 and far from it", 1, within.sheep(1, 99), x -> x.last());
        edges.tells("200 it is", 200, within.sheep(1, 99), x -> x.sleeps(0));
        edges.tells("201 and 205, both not at all", 0, beyond.sheep(1, 55), x -> x.last());
        edges.tells("first time: it wakes again", 1, EMPTY.man(0, 0).man(0, 99).sheep(1, 4).sheep(0, 8),
            x -> x.last());
    }

    private static void lastRefused() {
        edges.sentence(27, "NONE: there are none.");
        edges.refused("nobody there", Due.NONE, EMPTY, x -> x.last());
        edges.refused("no sheep", Due.NONE, EMPTY.men(6, 0, 0), x -> x.last());
    }
}
