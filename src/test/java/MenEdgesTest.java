import java.util.Map;
import java.util.TreeMap;

/** Boundary cases of promises 1 to 6: a new object, and men. */
public final class MenEdgesTest {
    private static final Edges edges = new Edges("MenEdgesTest", 1, 6);
    private static final Scene EMPTY = new Scene();
    private static final Scene BUSY = Scene.busy();
    private static final Scene FULL = Scene.full();

    public static void main(String[] args) {
        newObject();
        manMade();
        manRefused();
        manOf();
        dressMade();
        dressRefused();
        first();
        goesHomeMade();
        goesHomeRefused();
        edges.end();
    }

    private static Map<String, Long> nobody() {
        Map<String, Long> rows = new TreeMap<>();
        for (int which = -1; which < 7; which++) {
            rows.put("status " + which, 0L);
        }
        for (int s = 0; s < 4; s++) {
            rows.put("sheet " + s, (long) Due.MISSING);
        }
        for (String name : new String[] {"minute", "men", "sheep", "tape", "torn"}) {
            rows.put(name, 0L);
        }
        for (String name : new String[] {"last", "turn", "text"}) {
            rows.put(name, -1L);
        }
        rows.put("kept", (long) Due.NONE);
        return rows;
    }

    private static void newObject() {
        edges.sentence(1, "Nobody there; THE TAPE is empty, no image is kept.");
        FlockCounts early = new FlockCounts();
        edges.looks("a new one", new FlockCounts(), nobody());
        Scene.full().make();
        edges.looks("a new one behind a full one", new FlockCounts(), nobody());
        edges.looks("one from before a full one", early, nobody());

        edges.sentence(Edges.TERMS, "MINUTE: 0 at first (99999 at most).");
        edges.tells("now(0)", 0, EMPTY, x -> x.now(0));
        edges.sentence(Edges.TERMS, "THE LAST (-1 at first)");
        edges.tells("now(1)", -1, EMPTY, x -> x.now(1));
        edges.sentence(Edges.TERMS, "TURN: whose turn it is to pass (0 at first).");
        edges.tells("now(2) with a man", 0, EMPTY.man(0, 0), x -> x.now(2));
    }

    private static void manMade() {
        edges.sentence(2, "One more man in a GUISE: his number.");
        edges.does("man(0), the first", 0, EMPTY, x -> x.man(0), "men 1", "turn 0", "man 0 guise 0", "man 0 wear 0");
        edges.does("man(7), the first", 0, EMPTY, x -> x.man(7), "men 1", "turn 0", "man 0 guise 7", "man 0 wear 0");
        edges.does("man(7), the 4th", 3, BUSY, x -> x.man(7), "men 4", "man 3 guise 7", "man 3 wear 0");
        edges.does("man(0), the 6th", 5, BUSY.men(2, 1, 1), x -> x.man(0), "men 6", "man 5 guise 0", "man 5 wear 0");
        edges.does("man(2), where one went home", 5, FULL.then(x -> x.goesHome()), x -> x.man(2), "men 6",
            "man 5 guise 2", "man 5 wear 0");

        edges.sentence(Edges.TERMS, "MEN 0, 1, .. (at most 6)");
        edges.does("man(1), the 6th", 5, EMPTY.men(5, 1, 1), x -> x.man(1), "men 6", "man 5 guise 1", "man 5 wear 0");
        edges.refused("man(1), a 7th", Due.FULL, EMPTY.men(6, 1, 1), x -> x.man(1));
    }

    private static void manRefused() {
        edges.sentence(2, "BEYOND.");
        edges.refusedOutside("man", 0, 7, EMPTY, (x, v) -> x.man(v));
        edges.refusedOutside("man", 0, 7, BUSY, (x, v) -> x.man(v));
        edges.sentence(2, "FULL.");
        edges.refused("man(0), a 7th", Due.FULL, FULL, x -> x.man(0));
        edges.refused("man(7), a 7th", Due.FULL, FULL, x -> x.man(7));
        edges.sentence(2, "BEYOND. FULL.");
        edges.refusedOutside("man, a 7th", 0, 7, FULL, (x, v) -> x.man(v));
    }

    private static void manOf() {
        Scene two = BUSY.man(7, 0);
        edges.sentence(3, "Of a man: what 0 GUISE, 1 WEAR.");
        edges.tells("manOf(0, 0)", 3, two, x -> x.manOf(0, 0));
        edges.tells("manOf(0, 1)", 12, two, x -> x.manOf(0, 1));
        edges.tells("manOf(1, 1), the most", 99, two, x -> x.manOf(1, 1));
        edges.tells("manOf(2, 0), the least", 0, two, x -> x.manOf(2, 0));
        edges.tells("manOf(3, 0), the most", 7, two, x -> x.manOf(3, 0));
        edges.tells("manOf(3, 1), the least", 0, two, x -> x.manOf(3, 1));
        edges.tells("manOf(5, 0), the 6th", 2, FULL, x -> x.manOf(5, 0));
        edges.tells("manOf(5, 1), the 6th", 50, FULL, x -> x.manOf(5, 1));

        edges.sentence(3, "BEYOND.");
        edges.refusedOutside("manOf(v, 0) of three", 0, 2, BUSY, (x, v) -> x.manOf(v, 0));
        edges.refusedOutside("manOf(v, 1) of six", 0, 5, FULL, (x, v) -> x.manOf(v, 1));
        edges.refusedOutside("manOf(2, v)", 0, 1, BUSY, (x, v) -> x.manOf(2, v));
        edges.refused("manOf(0, 0) of none", Due.BEYOND, EMPTY, x -> x.manOf(0, 0));
        edges.refused("manOf(3, 2)", Due.BEYOND, BUSY, x -> x.manOf(3, 2));
        edges.refused("manOf(5, 0), gone home", Due.BEYOND, FULL.then(x -> x.goesHome()), x -> x.manOf(5, 0));
    }

    private static void dressMade() {
        edges.sentence(4, "GUISE (what 0), WEAR (1) of a man becomes v: what it was.");
        edges.does("dress(0, 0, 0)", 3, BUSY, x -> x.dress(0, 0, 0), "man 0 guise 0");
        edges.does("dress(2, 0, 7)", 0, BUSY, x -> x.dress(2, 0, 7), "man 2 guise 7");
        edges.does("dress(0, 1, 0)", 12, BUSY, x -> x.dress(0, 1, 0), "man 0 wear 0");
        edges.does("dress(2, 1, 99)", 41, BUSY, x -> x.dress(2, 1, 99), "man 2 wear 99");
        edges.does("dress(1, 1, 98)", 99, BUSY, x -> x.dress(1, 1, 98), "man 1 wear 98");
        edges.does("dress(1, 1, 8), too much for a guise", 99, BUSY, x -> x.dress(1, 1, 8), "man 1 wear 8");
        edges.tells("dress(1, 0, 5), as it was", 5, BUSY, x -> x.dress(1, 0, 5));
        edges.tells("dress(1, 1, 99), as it was", 99, BUSY, x -> x.dress(1, 1, 99));
        edges.does("dress(5, 0, 0), the 6th", 2, FULL, x -> x.dress(5, 0, 0), "man 5 guise 0");

        edges.sentence(Edges.TERMS, "GUISE (0 to 7: a set of 1 dog, 2 stick, 4 limp; 0 at first)");
        edges.refusedOutside("dress(0, 0, v)", 0, 7, BUSY, (x, v) -> x.dress(0, 0, v));
        edges.sentence(Edges.TERMS, "WEAR (0 to 99; 0 at first)");
        edges.refusedOutside("dress(0, 1, v)", 0, 99, BUSY, (x, v) -> x.dress(0, 1, v));
    }

    private static void dressRefused() {
        edges.sentence(4, "BEYOND.");
        edges.refusedOutside("dress(v, 0, 1)", 0, 2, BUSY, (x, v) -> x.dress(v, 0, 1));
        edges.refusedOutside("dress(v, 1, 1)", 0, 5, FULL, (x, v) -> x.dress(v, 1, 1));
        edges.refusedOutside("dress(1, v, 1)", 0, 1, BUSY, (x, v) -> x.dress(1, v, 1));
        edges.refusedOutside("dress(1, 0, v)", 0, 7, BUSY, (x, v) -> x.dress(1, 0, v));
        edges.refusedOutside("dress(1, 1, v)", 0, 99, BUSY, (x, v) -> x.dress(1, 1, v));
        edges.refused("dress(1, 0, 99), a wear for a guise", Due.BEYOND, BUSY, x -> x.dress(1, 0, 99));
        edges.refused("dress(0, 0, 0) of none", Due.BEYOND, EMPTY, x -> x.dress(0, 0, 0));
        edges.refused("dress(3, 2, 100)", Due.BEYOND, BUSY, x -> x.dress(3, 2, 100));
    }

    private static void first() {
        edges.sentence(5, "It is a man's TURN: whose it was.");
        edges.does("first(0)", 1, BUSY, x -> x.first(0), "turn 0");
        edges.does("first(2), the last", 1, BUSY, x -> x.first(2), "turn 2");
        edges.tells("first(1), whose it is", 1, BUSY, x -> x.first(1));
        edges.tells("first(0), the only one", 0, EMPTY.man(0, 0), x -> x.first(0));
        edges.does("first(1), who can't pass", 2, BUSY.first(2), x -> x.first(1), "turn 1");
        edges.does("first(5), the 6th", 2, FULL, x -> x.first(5), "turn 5");

        edges.sentence(5, "BEYOND.");
        edges.refusedOutside("first of three", 0, 2, BUSY, (x, v) -> x.first(v));
        edges.refusedOutside("first of six", 0, 5, FULL, (x, v) -> x.first(v));
        edges.refused("first(0) of none", Due.BEYOND, EMPTY, x -> x.first(0));
    }

    private static void goesHomeMade() {
        edges.sentence(6, "The last man goes home (TURN is 0, if it was his): how many there are then.");
        edges.does("the only one", 0, EMPTY.man(1, 2), x -> x.goesHome(), "men 0", "turn -1", "man 0 guise gone",
            "man 0 wear gone");
        edges.does("the 6th", 5, FULL, x -> x.goesHome(), "men 5", "man 5 guise gone", "man 5 wear gone");
        edges.does("his turn", 2, BUSY.first(2), x -> x.goesHome(), "men 2", "turn 0", "man 2 guise gone",
            "man 2 wear gone");
        edges.does("the turn of the one before", 2, BUSY.first(1), x -> x.goesHome(), "men 2", "man 2 guise gone",
            "man 2 wear gone");
        edges.does("the turn of 0", 2, BUSY.first(0), x -> x.goesHome(), "men 2", "man 2 guise gone",
            "man 2 wear gone");
        edges.does("his turn, of two", 1, EMPTY.man(1, 2).man(3, 4).first(1), x -> x.goesHome(), "men 1", "turn 0",
            "man 1 guise gone", "man 1 wear gone");
        edges.does("a man behind the only one who went", 0, EMPTY.man(1, 2).then(x -> x.goesHome()), x -> x.man(6),
            "men 1", "turn 0", "man 0 guise 6", "man 0 wear 0");
    }

    private static void goesHomeRefused() {
        edges.sentence(6, "NONE: there is none.");
        edges.refused("of none", Due.NONE, EMPTY, x -> x.goesHome());
        edges.refused("of none, with sheep", Due.NONE, EMPTY.sheep(4, 9, 9).kept().minutes(3).tape("man"),
            x -> x.goesHome());
        edges.refused("when the only one went", Due.NONE, EMPTY.man(1, 2).then(x -> x.goesHome()), x -> x.goesHome());
    }
}
