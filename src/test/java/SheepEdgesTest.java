/** Boundary cases of promises 7 to 12: sheep. */
public final class SheepEdgesTest {
    private static final Edges edges = new Edges("SheepEdgesTest", 7, 12);
    private static final Scene EMPTY = new Scene();
    private static final Scene BUSY = Scene.busy();
    private static final Scene FULL = Scene.full();
    /** One of each kind, each by its kind's number. */
    private static final Scene EACH =
        EMPTY.sheep(0, 20).sheep(1, 20).sheep(2, 20).sheep(3, 20).sheep(4, 20).sheep(5, 20);

    public static void main(String[] args) {
        sheepMade();
        sheepRefused();
        ofTold();
        ofRefused();
        setMade();
        setRefused();
        turn();
        asTold();
        asRefused();
        countsOfEachKind();
        countsAtTheEdges();
        countsRefused();
        edges.end();
    }

    private static void sheepMade() {
        edges.sentence(7, "One more SHEEP: its number.");
        edges.does("sheep(0), the first", 0, EMPTY, x -> x.sheep(0), "sheep 1", "sheep 0 kind 0", "sheep 0 wants 20",
            "sheep 0 seen 0");
        edges.does("sheep(5), the first", 0, EMPTY, x -> x.sheep(5), "sheep 1", "sheep 0 kind 5", "sheep 0 wants 20",
            "sheep 0 seen 0");
        edges.does("sheep(4), the 4th", 3, BUSY, x -> x.sheep(4), "sheep 4", "sheep 3 kind 4", "sheep 3 wants 20",
            "sheep 3 seen 0");
        edges.sentence(Edges.TERMS, "SHEEP 0, 1, .. (at most 8)");
        edges.does("sheep(5), the 8th", 7, BUSY.flock(4, 0, 1), x -> x.sheep(5), "sheep 8", "sheep 7 kind 5",
            "sheep 7 wants 20", "sheep 7 seen 0");
        edges.refused("sheep(5), a 9th", Due.FULL, BUSY.flock(5, 0, 1), x -> x.sheep(5));
        edges.sentence(Edges.TERMS, "20 at first");
        edges.does("sheep(3) where one was that wanted 7", 0,
            EMPTY.kept().sheep(2, 7, 8).then(x -> x.undo()), x -> x.sheep(3), "sheep 1", "sheep 0 kind 3",
            "sheep 0 wants 20", "sheep 0 seen 0");
    }

    private static void sheepRefused() {
        edges.sentence(7, "BEYOND: kind.");
        edges.refusedOutside("sheep", 0, 5, EMPTY, (x, v) -> x.sheep(v));
        edges.refusedOutside("sheep", 0, 5, BUSY, (x, v) -> x.sheep(v));
        edges.sentence(7, "FULL.");
        edges.refused("sheep(0), a 9th", Due.FULL, FULL, x -> x.sheep(0));
        edges.refused("sheep(5), a 9th", Due.FULL, FULL, x -> x.sheep(5));
        edges.sentence(7, "BEYOND: kind. FULL.");
        edges.refusedOutside("sheep, a 9th", 0, 5, FULL, (x, v) -> x.sheep(v));
    }

    private static void ofTold() {
        edges.sentence(8, "Of one: what 0 KIND, 1 WANTS, 2 SEEN, 3 1 if it SLEEPS, else 0, 4 WAKES, 5 TIRES.");
        int[][] of = {{1, 45, 4, 0, 1, 1}, {2, 0, 8, 1, 2, 0}, {5, 24, 9001, 0, 0, 1}};
        for (int s = 0; s < of.length; s++) {
            for (int what = 0; what < 6; what++) {
                int sheep = s;
                int asked = what;
                edges.tells("of(" + s + ", " + what + ")", of[s][what], BUSY, x -> x.of(sheep, asked));
            }
        }
        edges.tells("of(7, 0), the 8th", 1, FULL, x -> x.of(7, 0));
        edges.tells("of(0, 1), the most", 99, EMPTY.sheep(0, 99), x -> x.of(0, 1));
        edges.tells("of(0, 2), the most", 9999, EMPTY.sheep(0, 9, 9999), x -> x.of(0, 2));

        edges.sentence(Edges.TERMS, "it SLEEPS, if that is 0");
        edges.tells("of(0, 3) at 0", 1, EMPTY.sheep(0, 0), x -> x.of(0, 3));
        edges.tells("of(0, 3) at 1", 0, EMPTY.sheep(0, 1), x -> x.of(0, 3));
        edges.tells("of(0, 3) at 99", 0, EMPTY.sheep(0, 99), x -> x.of(0, 3));

        int[] wakes = {0, 1, 2, 0, 2, 0};
        int[] tires = {1, 1, 0, 1, 2, 1};
        edges.sentence(Edges.TERMS, "SHEEP: 0. EWE: as SHEEP, and 1. LAMB: 2. WETHER: as SHEEP. WAKER: twice as EWE.");
        for (int kind = 0; kind < 6; kind++) {
            int s = kind;
            edges.tells("of(" + s + ", 4)", wakes[s], EACH, x -> x.of(s, 4));
            edges.tells("of(" + s + ", 5)", tires[s], EACH, x -> x.of(s, 5));
        }
    }

    private static void ofRefused() {
        edges.sentence(8, "BEYOND.");
        edges.refusedOutside("of(v, 0) of three", 0, 2, BUSY, (x, v) -> x.of(v, 0));
        edges.refusedOutside("of(v, 5) of eight", 0, 7, FULL, (x, v) -> x.of(v, 5));
        edges.refusedOutside("of(2, v)", 0, 5, BUSY, (x, v) -> x.of(2, v));
        edges.refused("of(0, 0) of none", Due.BEYOND, EMPTY, x -> x.of(0, 0));
        edges.refused("of(3, 6)", Due.BEYOND, BUSY, x -> x.of(3, 6));
    }

    private static void setMade() {
        edges.sentence(9, "WANTS (what 1), SEEN (2) of one becomes v: what it was.");
        edges.does("set(0, 1, 0)", 45, BUSY, x -> x.set(0, 1, 0), "sheep 0 wants 0");
        edges.does("set(2, 1, 99)", 24, BUSY, x -> x.set(2, 1, 99), "sheep 2 wants 99");
        edges.does("set(1, 1, 1), it slept", 0, BUSY, x -> x.set(1, 1, 1), "sheep 1 wants 1");
        edges.does("set(0, 2, 0)", 4, BUSY, x -> x.set(0, 2, 0), "sheep 0 seen 0");
        edges.does("set(2, 2, 9999)", 9001, BUSY, x -> x.set(2, 2, 9999), "sheep 2 seen 9999");
        edges.does("set(2, 2, 100), too much for wants", 9001, BUSY, x -> x.set(2, 2, 100), "sheep 2 seen 100");
        edges.tells("set(1, 1, 0), as it was", 0, BUSY, x -> x.set(1, 1, 0));
        edges.does("set(7, 1, 0), the 8th", 8, FULL.then(x -> x.set(7, 1, 8)), x -> x.set(7, 1, 0), "sheep 7 wants 0");
    }

    private static void setRefused() {
        edges.sentence(Edges.TERMS, "WANTS (0 to 99: how much is wanting to its sleep;");
        edges.refusedOutside("set(0, 1, v)", 0, 99, BUSY, (x, v) -> x.set(0, 1, v));
        edges.sentence(Edges.TERMS, "SEEN (how many passings it saw; 0 at first, held to 9999)");
        edges.refusedOutside("set(0, 2, v)", 0, 9999, BUSY, (x, v) -> x.set(0, 2, v));
        edges.sentence(9, "BEYOND.");
        edges.refusedOutside("set(1, 1, v)", 0, 99, BUSY, (x, v) -> x.set(1, 1, v));
        edges.refusedOutside("set(1, 2, v)", 0, 9999, BUSY, (x, v) -> x.set(1, 2, v));
        edges.refusedOutside("set(v, 1, 1)", 0, 2, BUSY, (x, v) -> x.set(v, 1, 1));
        edges.refusedOutside("set(v, 2, 1)", 0, 7, FULL, (x, v) -> x.set(v, 2, 1));
        edges.refusedOutside("set(1, v, 1)", 1, 2, BUSY, (x, v) -> x.set(1, v, 1));
        edges.refused("set(1, 1, 9999), seen for wants", Due.BEYOND, BUSY, x -> x.set(1, 1, 9999));
        edges.refused("set(0, 1, 0) of none", Due.BEYOND, EMPTY, x -> x.set(0, 1, 0));
        edges.refused("set(3, 3, 10000)", Due.BEYOND, BUSY, x -> x.set(3, 3, 10000));
    }

    private static void turn() {
        edges.sentence(10, "One becomes one of another KIND: what it was.");
        edges.does("turn(0, 0)", 1, BUSY, x -> x.turn(0, 0), "sheep 0 kind 0");
        edges.does("turn(0, 5)", 1, BUSY, x -> x.turn(0, 5), "sheep 0 kind 5");
        edges.does("turn(1, 4), asleep", 2, BUSY, x -> x.turn(1, 4), "sheep 1 kind 4");
        edges.tells("turn(2, 5), as it was", 5, BUSY, x -> x.turn(2, 5));
        edges.does("turn(7, 2), the 8th", 1, FULL, x -> x.turn(7, 2), "sheep 7 kind 2");
        edges.sentence(10, "BEYOND.");
        edges.refusedOutside("turn(v, 0) of three", 0, 2, BUSY, (x, v) -> x.turn(v, 0));
        edges.refusedOutside("turn(v, 5) of eight", 0, 7, FULL, (x, v) -> x.turn(v, 5));
        edges.refusedOutside("turn(0, v)", 0, 5, BUSY, (x, v) -> x.turn(0, v));
        edges.refused("turn(0, 0) of none", Due.BEYOND, EMPTY, x -> x.turn(0, 0));
    }

    private static final String[] FITS = {"100000", "110000", "101000", "100100", "110010", "100101"};

    private static void asTold() {
        edges.sentence(11, "One as one of a kind: WANTS.");
        for (int s = 0; s < 6; s++) {
            for (int kind = 0; kind < 6; kind++) {
                if (FITS[s].charAt(kind) == '1') {
                    int sheep = s;
                    int as = kind;
                    edges.tells("as(" + s + ", " + kind + ")", 20, EACH, x -> x.as(sheep, as));
                }
            }
        }
        edges.tells("as(1, 2), asleep", 0, BUSY, x -> x.as(1, 2));
        edges.tells("as(0, 0), the most", 99, EMPTY.sheep(4, 99), x -> x.as(0, 0));
        edges.tells("as(7, 1), the 8th", 9, FULL.then(x -> x.set(7, 1, 9)), x -> x.as(7, 1));
    }

    private static void asRefused() {
        edges.sentence(11, "KIND: it isn't of that kind, nor of one under it.");
        for (int s = 0; s < 6; s++) {
            for (int kind = 0; kind < 6; kind++) {
                if (FITS[s].charAt(kind) == '0') {
                    int sheep = s;
                    int as = kind;
                    edges.refused("as(" + s + ", " + kind + ")", Due.KIND, EACH, x -> x.as(sheep, as));
                }
            }
        }
        edges.refused("as(1, 1)", Due.KIND, BUSY, x -> x.as(1, 1));
        edges.sentence(11, "BEYOND: no such one, kind.");
        edges.refusedOutside("as(v, 0) of three", 0, 2, BUSY, (x, v) -> x.as(v, 0));
        edges.refusedOutside("as(v, 5) of eight", 0, 7, FULL, (x, v) -> x.as(v, 5));
        edges.refusedOutside("as(1, v)", 0, 5, BUSY, (x, v) -> x.as(1, v));
        edges.refused("as(0, 0) of none", Due.BEYOND, EMPTY, x -> x.as(0, 0));
    }

    /** For each kind and guise 0 to 7, at three moments: nobody passed yet, then one in guise 0 at 1 and at 2. */
    private static void countsOfEachKind() {
        int[][] atFirst = {{4, 4, 4, 4, 4, 4, 4, 4}, {4, 4, 5, 5, 4, 4, 5, 5}, {8, 8, 8, 8, 8, 8, 8, 8},
            {4, 4, 4, 4, 4, 4, 4, 4}, {4, 4, 5, 5, 4, 4, 5, 5}, {4, 6, 4, 6, 4, 6, 4, 6}};
        int[][] atTwo = {{1, 2, 2, 3, 2, 3, 3, 4}, {1, 2, 3, 4, 2, 3, 4, 5}, {2, 4, 4, 6, 4, 6, 6, 8},
            {0, 2, 2, 3, 2, 3, 3, 4}, {1, 2, 3, 4, 2, 3, 4, 5}, {0, 4, 2, 5, 2, 5, 3, 6}};
        edges.sentence(12, "What a passing in a GUISE would COUNT for one now.");
        for (int kind = 0; kind < 6; kind++) {
            for (int g = 0; g < 8; g++) {
                int s = kind;
                int guise = g;
                String call = "counts(" + s + ", " + g + ")";
                int lessWhenOdd = s == 4 ? 1 : 0;
                edges.tells(call, atFirst[s][g], EACH, x -> x.counts(s, guise));
                edges.tells(call + " at 1", atTwo[s][g] - lessWhenOdd, EACH.man(0, 0).minutes(1),
                    x -> x.counts(s, guise));
                edges.tells(call + " at 2", atTwo[s][g], EACH.man(0, 0).minutes(2), x -> x.counts(s, guise));
            }
        }
    }

    private static void countsAtTheEdges() {
        Scene dogged = EACH.man(1, 0).minutes(1);
        edges.sentence(Edges.TERMS, "(0 to 3; 3, if one is -1)");
        edges.tells("counts(0, 0), THE LAST -1", 4, EACH, x -> x.counts(0, 0));
        edges.tells("counts(0, 1), alike", 1, dogged, x -> x.counts(0, 1));
        edges.tells("counts(0, 6), unlike in all", 4, dogged, x -> x.counts(0, 6));
        edges.tells("counts(0, 1), when nobody passed", 4, dogged.then(x -> x.dress(0, 1, 99)).minutes(1),
            x -> x.counts(0, 1));
        edges.sentence(Edges.TERMS, "WETHER: as SHEEP, but 0 if u is 0.");
        edges.tells("counts(3, 1), u 0", 0, dogged, x -> x.counts(3, 1));
        edges.tells("counts(3, 0), u 1", 2, dogged, x -> x.counts(3, 0));
        edges.sentence(Edges.TERMS, "TUP: as WETHER, and 2, if g has a dog.");
        edges.tells("counts(5, 1), u 0 with a dog", 2, dogged, x -> x.counts(5, 1));
        edges.tells("counts(5, 0), u 1 without", 2, dogged, x -> x.counts(5, 0));
        edges.sentence(Edges.TERMS, "WAKER: as EWE, less 1 (0 at least) in odd MINUTES.");
        edges.tells("counts(4, 1) at 1", 0, dogged, x -> x.counts(4, 1));
        edges.tells("counts(4, 1) at 2", 1, dogged.minutes(1), x -> x.counts(4, 1));
        edges.tells("counts(4, 1) at 3", 0, dogged.minutes(2), x -> x.counts(4, 1));
        edges.sentence(12, "What a passing in a GUISE would COUNT for one now.");
        edges.tells("counts(0, 7) for one that sleeps", 4, EMPTY.sheep(0, 0), x -> x.counts(0, 7));
        edges.tells("counts(0, 7) for one that wants 1", 8, EMPTY.sheep(2, 1), x -> x.counts(0, 7));
    }

    private static void countsRefused() {
        edges.sentence(12, "BEYOND.");
        edges.refusedOutside("counts(v, 0) of three", 0, 2, BUSY, (x, v) -> x.counts(v, 0));
        edges.refusedOutside("counts(v, 7) of eight", 0, 7, FULL, (x, v) -> x.counts(v, 7));
        edges.refusedOutside("counts(1, v)", 0, 7, BUSY, (x, v) -> x.counts(1, v));
        edges.refused("counts(0, 0) of none", Due.BEYOND, EMPTY, x -> x.counts(0, 0));
        edges.refused("counts(3, 8)", Due.BEYOND, BUSY, x -> x.counts(3, 8));
    }
}
