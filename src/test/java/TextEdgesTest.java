/** Boundary cases of promises 28 to 30: the text. */
public final class TextEdgesTest {
    private static final Edges edges = new Edges("TextEdgesTest", 28, 30);
    private static final Scene EMPTY = new Scene();
    private static final Scene BUSY = Scene.busy();
    private static final Scene FULL = Scene.full();
    /** Three men and three sheep, nothing on the tape. */
    private static final Scene WIPED = BUSY.then(x -> x.wipe());
    private static final String ONE_MAN_GONE = "text man 0 guise gone";
    private static final String HIS_WEAR_GONE = "text man 0 wear gone";

    public static void main(String[] args) {
        feedMade();
        feedAtTheEnd();
        feedRefused();
        wipe();
        items();
        itemsAtTheEdges();
        numbers();
        tooEarly();
        signs();
        words();
        tooManySheep();
        tooManyMen();
        nothingChanges();
        edges.end();
    }

    private static void feedMade() {
        String[] man = {"text 1", "text man 0 guise 0", "text man 0 wear 0"};
        edges.sentence(28, "THE TAPE gets the n lowest bytes of a number behind it, the highest of these first");
        edges.does("4 of 4", 4, EMPTY, x -> x.feed(0x6d616e20, 4), "tape 4", man[0], man[1], man[2]);
        edges.does("3 of 4", 3, EMPTY, x -> x.feed(0x6d616e, 3), "tape 3", man[0], man[1], man[2]);
        edges.does("3 of 4, below 0", 3, EMPTY, x -> x.feed(0xff6d616e, 3), "tape 3", man[0], man[1], man[2]);
        edges.does("2 behind 1", 3, EMPTY.tape("m"), x -> x.feed(0x7a7a616e, 2), "tape 3", man[0], man[1], man[2]);
        edges.does("1 behind 2", 3, EMPTY.tape("ma"), x -> x.feed(0x7a7a7a6e, 1), "tape 3", man[0], man[1], man[2]);
        edges.does("the lowest first would be man", 3, EMPTY, x -> x.feed(0x6e616d, 3), "tape 3");
        edges.does("byte 0", 1, EMPTY, x -> x.feed(0, 1), "tape 1");
        edges.does("byte 255", 1, EMPTY, x -> x.feed(-1, 1), "tape 1");
        edges.does("the least number", 4, EMPTY, x -> x.feed(Integer.MIN_VALUE, 4), "tape 4");
        edges.does("the greatest number", 4, EMPTY, x -> x.feed(Integer.MAX_VALUE, 4), "tape 4");
    }

    private static Scene blanks(int many) {
        return EMPTY.tape(" ".repeat(many));
    }

    private static void feedAtTheEnd() {
        edges.sentence(Edges.TERMS, "from THE TAPE (bytes, at most 120)");
        for (int many = 1; many <= 4; many++) {
            int n = many;
            edges.does(n + " up to 119", 119, blanks(119 - n), x -> x.feed(0x20202020, n), "tape 119", "text -120");
            edges.does(n + " up to 120", 120, blanks(120 - n), x -> x.feed(0x20202020, n), "tape 120", "text -121");
            edges.refused(n + " up to 121", Due.FULL, blanks(121 - n), x -> x.feed(0x20202020, n));
        }
        edges.does("4 up to 120, read to the last byte", 120, blanks(116), x -> x.feed(0x20747570, 4), "tape 120",
            "text 1");
    }

    private static void feedRefused() {
        edges.sentence(28, "BEYOND: n.");
        edges.refusedOutside("feed(109, v)", 1, 4, EMPTY, (x, v) -> x.feed(109, v));
        edges.refusedOutside("feed(109, v)", 1, 4, BUSY, (x, v) -> x.feed(109, v));
        edges.sentence(28, "FULL.");
        for (int many = 1; many <= 4; many++) {
            int n = many;
            edges.refused(n + " where there are 120", Due.FULL, FULL, x -> x.feed(0x20202020, n));
        }
        edges.refused("4 where 3 have room", Due.FULL, blanks(117), x -> x.feed(0x20202020, 4));
        edges.sentence(28, "BEYOND: n. FULL.");
        edges.refusedOutside("feed(109, v) where there are 120", 1, 4, FULL, (x, v) -> x.feed(109, v));
    }

    private static void wipe() {
        edges.sentence(29, "THE TAPE is empty: how many it had.");
        edges.tells("of none", 0, EMPTY, x -> x.wipe());
        edges.does("of 1", 1, EMPTY.tape("m"), x -> x.wipe(), "tape 0");
        edges.does("of 15", 15, BUSY, x -> x.wipe(), "tape 0", "text -1", ONE_MAN_GONE, HIS_WEAR_GONE);
        edges.does("of 120", 120, FULL, x -> x.wipe(), "tape 0", "text -1", ONE_MAN_GONE, HIS_WEAR_GONE);
        edges.tells("of none any more", 0, FULL.then(x -> x.wipe()), x -> x.wipe());
        edges.does("120 have room again", 4, FULL.then(x -> x.wipe()), x -> x.feed(0x20202020, 4), "tape 4",
            "text -5");
    }

    /** The text comes to these rows, where nobody is. */
    private static void comes(String text, int items, String... rows) {
        edges.becomes("\"" + text + "\"", items, EMPTY.tape(text), x -> x.fell(), EMPTY, rows);
    }

    private static void sheepComes(String text, int kind, int wants) {
        comes(text, 1, "sheep 1", "sheep 0 kind " + kind, "sheep 0 wants " + wants, "sheep 0 seen 0");
    }

    private static void manComes(String text, int guise, int wear) {
        comes(text, 1, "men 1", "turn 0", "man 0 guise " + guise, "man 0 wear " + wear);
    }

    /** The text has a FAULT: nothing is left of it, though three men and three sheep are there. */
    private static void fault(String text, int place) {
        edges.becomes("\"" + text + "\"", -1 - place, WIPED.tape(text), x -> x.fell(), WIPED);
    }

    private static void items() {
        edges.sentence(30, "THE TAPE is THE TEXT of a FELL, whose ITEMS come to what there is, and empty then");
        edges.does("one man more", 1, BUSY, x -> x.fell(), "men 4", "man 3 guise 4", "man 3 wear 7", "tape 0",
            "text -1", ONE_MAN_GONE, HIS_WEAR_GONE);
        edges.sentence(Edges.TERMS, "ITEM: the name of a KIND (sheep ewe lamb wether waker tup)");
        String[] names = {"sheep", "ewe", "lamb", "wether", "waker", "tup"};
        for (int kind = 0; kind < names.length; kind++) {
            sheepComes(names[kind], kind, 20);
        }
        edges.sentence(Edges.TERMS, "man, perhaps dog, perhaps stick, perhaps limp, perhaps worn and a NUMBER");
        for (int guise = 0; guise < 8; guise++) {
            String text = "man" + ((guise & 1) != 0 ? " dog" : "") + ((guise & 2) != 0 ? " stick" : "")
                + ((guise & 4) != 0 ? " limp" : "");
            manComes(text, guise, 0);
            manComes(text + " worn 98", guise, 98);
        }
    }

    private static void itemsAtTheEdges() {
        edges.sentence(Edges.TERMS, "blanks may stand between");
        sheepComes("ewe wants 7", 1, 7);
        sheepComes("ewe wants7", 1, 7);
        sheepComes("ewe   wants   7", 1, 7);
        sheepComes("  ewe  ", 1, 20);
        edges.sentence(Edges.TERMS, "TEXT: ITEM { ; ITEM }.");
        comes("tup;man", 2, "sheep 1", "sheep 0 kind 5", "sheep 0 wants 20", "sheep 0 seen 0", "men 1", "turn 0",
            "man 0 guise 0", "man 0 wear 0");
        comes("tup ; man ", 2, "sheep 1", "sheep 0 kind 5", "sheep 0 wants 20", "sheep 0 seen 0", "men 1", "turn 0",
            "man 0 guise 0", "man 0 wear 0");
        edges.sentence(30, "how many ITEMS.");
        String fourteen = "man;".repeat(6) + "ewe;".repeat(7) + "ewe";
        edges.becomes("as many as can be", 14, EMPTY.tape(fourteen), x -> x.fell(), EMPTY.men(6, 0, 0).flock(8, 1, 20));
        String four = "man dog stick limp worn 99;".repeat(4);
        edges.becomes("a text of 120 bytes", 5, EMPTY.tape(four + "ewe wants 99"), x -> x.fell(),
            EMPTY.men(4, 7, 99).sheep(1, 99));
        edges.becomes("a text of 120 bytes that ends too early", -121, EMPTY.tape(four + "sheep  wants"),
            x -> x.fell(), EMPTY);
    }

    private static void numbers() {
        edges.sentence(Edges.TERMS, "perhaps wants and a NUMBER (0 to 99): one more");
        sheepComes("tup wants 0", 5, 0);
        sheepComes("tup wants 1", 5, 1);
        sheepComes("tup wants 98", 5, 98);
        sheepComes("tup wants 99", 5, 99);
        fault("tup wants 100", 10);
        fault("tup wants 999", 10);
        edges.sentence(Edges.TERMS, "perhaps worn and a NUMBER (0 to 99): one more.");
        manComes("man worn 0", 0, 0);
        manComes("man worn 99", 0, 99);
        fault("man worn 100", 9);
        fault("man worn 999", 9);
        edges.sentence(Edges.TERMS, "NUMBERS (digits, 999 at most)");
        fault("tup wants 1000", 10);
        fault("man worn 1000", 9);
        fault("tup wants 2147483648", 10);
        fault("tup wants 4294967296", 10);
        fault("tup wants 4294967305", 10);
        fault("tup wants 18446744073709551617", 10);
        fault("tup wants " + "9".repeat(110), 10);
        fault("man worn 100000000000000000000000000000007", 9);
        sheepComes("tup wants 00", 5, 0);
        sheepComes("tup wants 099", 5, 99);
        sheepComes("tup wants " + "0".repeat(108) + "99", 5, 99);
        fault("tup wants 0100", 10);
        fault("tup wants -1", 10);
    }

    private static void tooEarly() {
        edges.sentence(Edges.TERMS, "or how many bytes there are if it ends too early.");
        fault("", 0);
        fault(" ", 1);
        fault(" ".repeat(119), 119);
        fault(" ".repeat(120), 120);
        fault("ewe;", 4);
        fault("ewe;  ", 6);
        fault("ewe;" + " ".repeat(116), 120);
        fault("ewe wants", 9);
        fault("ewe wants ", 10);
        fault("man worn", 8);
        fault("man dog stick limp worn", 23);
        fault("man;ewe wants 3;", 16);
        fault("man" + " ".repeat(113) + "worn", 120);
        edges.sentence(30, "With a FAULT: -1 less its place");
        fault("?", 0);
        fault(" ".repeat(119) + "?", 119);
        fault(" ".repeat(118) + "ew", 118);
    }

    private static void signs() {
        edges.sentence(Edges.TERMS, "a byte that begins no TOKEN");
        // the neighbours of a blank, of digits, of the sign and of letters, and the farthest bytes
        int[] strange = {0, 1, 9, 10, 13, 31, 33, '/', ':', '<', '@', 'A', 'Z', '[', '`', '{', '~', 127, 128, 160,
            128 + 'e', 128 + ' ', 128 + ';', 255};
        for (int b : strange) {
            char sign = (char) b;
            fault("" + sign, 0);
            fault("ewe" + sign, 3);
            fault("ewe " + sign + " wants 3", 4);
            fault("ewe wants " + sign, 10);
            fault("ewe wants 3" + sign, 11);
            fault("man;" + sign + "ewe", 4);
        }
        edges.sentence(Edges.TERMS, "SIGN ;");
        fault(";", 0);
        fault(";ewe", 0);
        fault("ewe;;ewe", 4);
        fault("ewe wants;", 9);
        fault("man worn ;7", 9);
        fault("man dog;stick", 8);
    }

    private static void words() {
        edges.sentence(Edges.TERMS, "the first TOKEN that can't stand there (a NUMBER that may not be, another WORD,");
        fault("goat", 0);
        fault("ewe goat", 4);
        fault("man goat", 4);
        fault("ewe wants goat", 10);
        fault("ewe;goat;?", 4);
        fault("7", 0);
        fault("ewe 7", 4);
        fault("man 7", 4);
        fault("man dog 7", 8);
        fault("ewe wants 7 7", 12);
        fault("ewe wants 7 wants 7", 12);
        fault("ewe ewe", 4);
        fault("ewe man", 4);
        fault("man ewe", 4);
        fault("ewe dog", 4);
        fault("ewe worn 7", 4);
        fault("man wants 7", 4);
        fault("wants 7", 0);
        fault("dog", 0);
        fault("man dog dog", 8);
        fault("man stick dog", 10);
        fault("man limp dog", 9);
        fault("man limp stick", 9);
        fault("man worn 7 dog", 11);
        fault("man worn 7 worn 7", 11);
        edges.sentence(Edges.TERMS, "TOKENS, each as long as can be: WORDS (letters a to z)");
        fault("ew", 0);
        fault("we", 0);
        fault("awe", 0);
        fault("ewee", 0);
        fault("ewea", 0);
        fault("ewez", 0);
        fault("aewe", 0);
        fault("zewe", 0);
        fault("can", 0);
        fault("man hog", 4);
        fault("man born 7", 4);
        fault("ewe pants 7", 4);
        fault("eweman", 0);
        fault("ewewants 7", 0);
        fault("eWe", 0);
        fault("mann", 0);
        fault("man dogstick", 4);
        fault("man do", 4);
        fault("ewe want 7", 4);
        fault("ewe wants 7ewe", 11);
        fault("ewe wants 7 0", 12);
    }

    private static void tooManySheep() {
        Scene seven = EMPTY.flock(7, 0, 3).man(1, 1);
        Scene eight = EMPTY.flock(8, 0, 3).man(1, 1);
        edges.sentence(Edges.TERMS, "the name of a KIND for a 9th, man for a 7th: its own");
        edges.becomes("an 8th", 1, seven.tape("ewe wants 7"), x -> x.fell(), seven.sheep(1, 7));
        edges.becomes("an 8th, and a man", 2, seven.tape("ewe;man dog"), x -> x.fell(), seven.sheep(1, 20).man(1, 0));
        edges.becomes("a 9th", -1, eight.tape("ewe"), x -> x.fell(), eight);
        edges.becomes("a 9th behind blanks", -3, eight.tape("  tup wants 7"), x -> x.fell(), eight);
        edges.becomes("an 8th and a 9th", -5, seven.tape("ewe;ewe"), x -> x.fell(), seven);
        edges.becomes("a 9th before a worse fault", -5, seven.tape("ewe;ewe wants 100"), x -> x.fell(), seven);
        edges.becomes("a fault before a 9th", -11, seven.tape("ewe wants 100;ewe"), x -> x.fell(), seven);
        edges.becomes("another word where there are 8", -1, eight.tape("goat"), x -> x.fell(), eight);
        edges.becomes("a man where there are 8", 1, eight.tape("man stick"), x -> x.fell(), eight.man(2, 0));
        edges.becomes("nine at once", -33, EMPTY.tape("ewe;".repeat(8) + "ewe"), x -> x.fell(), EMPTY);
        edges.becomes("eight at once", 8, EMPTY.tape("ewe;".repeat(7) + "ewe"), x -> x.fell(), EMPTY.flock(8, 1, 20));
    }

    private static void tooManyMen() {
        Scene five = EMPTY.men(5, 2, 3).sheep(4, 5);
        Scene six = EMPTY.men(6, 2, 3).sheep(4, 5);
        edges.becomes("a 6th", 1, five.tape("man limp worn 9"), x -> x.fell(), five.man(4, 9));
        edges.becomes("a 7th", -1, six.tape("man"), x -> x.fell(), six);
        edges.becomes("a 7th behind blanks", -3, six.tape("  man dog"), x -> x.fell(), six);
        edges.becomes("a 6th and a 7th", -5, five.tape("man;man"), x -> x.fell(), five);
        edges.becomes("a 7th before a worse fault", -5, five.tape("man;man man"), x -> x.fell(), five);
        edges.becomes("a fault before a 7th", -10, five.tape("man worn 100;man"), x -> x.fell(), five);
        edges.becomes("a sheep where there are 6", 1, six.tape("lamb"), x -> x.fell(), six.sheep(2, 20));
        edges.becomes("seven at once", -25, EMPTY.tape("man;".repeat(6) + "man"), x -> x.fell(), EMPTY);
        edges.becomes("six at once", 6, EMPTY.tape("man;".repeat(5) + "man"), x -> x.fell(), EMPTY.men(6, 0, 0));
    }

    private static void nothingChanges() {
        edges.sentence(30, "(nothing changes but that THE TAPE is empty; no finding)");
        edges.does("man for a 7th, at 104 of 120 bytes", -105, FULL, x -> x.fell(), "tape 0", "text -1", ONE_MAN_GONE,
            HIS_WEAR_GONE);
        edges.does("good items before it", -17, WIPED.tape("man dog;ewe;tup;?"), x -> x.fell(), "tape 0", "text -1");
        edges.tells("an empty one", -1, WIPED, x -> x.fell());
        edges.tells("an empty one where nobody is", -1, EMPTY, x -> x.fell());
        edges.becomes("an old text is not read again", -11, EMPTY.tape("ewe wants 100").then(x -> x.fell())
            .tape("ewe wants "), x -> x.fell(), EMPTY);
    }
}
