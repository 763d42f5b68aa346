/** Promises 28 to 30: the text. */
public final class TextTest {
    private static final Due due = new Due("TextTest");

    public static void main(String[] args) {
        feed();
        wipe();
        items();
        faults();
        faultsOfTooMany();
        due.end();
    }

    private static void feed() {
        FlockCounts x = new FlockCounts();
        due.is("feed n 0", x.feed(1, 0), Due.BEYOND);
        due.is("feed n 5", x.feed(1, 5), Due.BEYOND);
        due.is("feed n -1", x.feed(1, -1), Due.BEYOND);
        due.is("feed the lowest 3, highest first", x.feed(0x7a746561 & 0xffffff | 0x7a000000, 3), 3);
        due.is("feed 1 of many", x.feed(0x31323320, 1), 4);
        due.is("it is no word of a fell", x.fell(), -1);
        x.feed('t' << 8 | 'u', 2);
        due.is("feed one", x.feed('p', 1), 3);
        due.is("a tup", x.fell(), 1);
        due.is("its kind", x.of(0, 0), 5);
        for (int i = 1; i <= 29; i++) {
            due.is("feed 4", x.feed(0x20202020, 4), 4 * i);
        }
        due.is("feed 3", x.feed(0, 3), 119);
        due.is("feed 2 where 1 has room", x.feed(0, 2), Due.FULL);
        due.is("feed n 5 where 1 has room", x.feed(0, 5), Due.BEYOND);
        due.is("nothing came", x.count(2), 119);
        due.is("feed the 120th", x.feed(0, 1), 120);
        due.is("feed a 121st", x.feed(0, 1), Due.FULL);
        due.is("a fault behind blanks", x.fell(), -117);
        due.is("empty then", x.count(2), 0);
        x.feed(-1, 4);
        due.is("bytes above 127 begin no token", x.fell(), -1);
        due.is("a whole tape of blanks", fell(x, " ".repeat(120)), -121);
        due.is("a whole tape of digits", fell(x, "ewe wants " + "9".repeat(110)), -11);
        due.is("a whole tape, to its last byte", fell(x, " ".repeat(117) + "ewe"), 1);
        due.is("no byte of an earlier text", fell(x, "ewe wants "), -11);
    }

    private static void wipe() {
        FlockCounts x = new FlockCounts();
        x.feed(0x74757020, 4);
        due.is("wipe", x.wipe(), 4);
        due.is("wipe again", x.wipe(), 0);
        due.is("an empty text ends too early", x.fell(), -1);
        due.is("no finding", x.status(-1), 0);
    }

    private static int fell(FlockCounts x, String text) {
        Due.feed(x, text);
        return x.fell();
    }

    private static void items() {
        FlockCounts x = new FlockCounts();
        due.is("six kinds", fell(x, "sheep;ewe;lamb;wether ; waker wants 99;tup wants 0"), 6);
        int[] wants = {20, 20, 20, 20, 99, 0};
        for (int s = 0; s < 6; s++) {
            due.is("kind of " + s, x.of(s, 0), s);
            due.is("wants of " + s, x.of(s, 1), wants[s]);
            due.is("seen of " + s, x.of(s, 2), 0);
        }
        String text = "man;man dog;man stick;man dog stick limp worn 99;man limp worn 0";
        due.is("men", fell(x, text), 5);
        int[] guises = {0, 1, 2, 7, 4};
        for (int m = 0; m < 5; m++) {
            due.is("guise of " + m, x.manOf(m, 0), guises[m]);
            due.is("wear of " + m, x.manOf(m, 1), m == 3 ? 99 : 0);
        }
        due.is("both, tight", fell(x, "  man dog limp worn42;lamb wants007  "), 2);
        due.is("guise", x.manOf(5, 0), 5);
        due.is("wear", x.manOf(5, 1), 42);
        due.is("wants", x.of(6, 1), 7);
        due.is("turn stays", x.now(2), 0);
        due.is("tape is empty", x.count(2), 0);

        x = new FlockCounts();
        due.is("many digits", fell(x, "ewe wants 0000000000000000000099"), 1);
        due.is("wants 99", x.of(0, 1), 99);
    }

    private static void fault(String text, int place) {
        FlockCounts x = new FlockCounts();
        x.sheep(0);
        x.man(3);
        due.is("\"" + text + "\"", fell(x, text), -1 - place);
        due.is("no sheep came", x.count(0), 1);
        due.is("no man came", x.count(1), 1);
        due.is("the tape is empty", x.count(2), 0);
        due.is("no finding", x.status(-1), 0);
    }

    private static void faults() {
        fault("", 0);
        fault("   ", 3);
        fault("ewe;", 4);
        fault("ewe; ", 5);
        fault("ewe wants", 9);
        fault("ewe wants ", 10);
        fault("man worn", 8);
        fault(";", 0);
        fault("ewe;;ewe", 4);
        fault("ewes", 0);
        fault("ew", 0);
        fault("awe", 0);
        fault("can", 0);
        fault("ewez", 0);
        fault("aewe", 0);
        fault("ewewants 3", 0);
        fault("Ewe", 0);
        fault("ewE", 0);
        fault("eweE", 3);
        fault("ewe lamb", 4);
        fault("ewe dog", 4);
        fault("ewe worn 3", 4);
        fault("man wants 3", 4);
        fault("ewe 3", 4);
        fault("man 3", 4);
        fault("3", 0);
        fault("wants 3", 0);
        fault("ewe wants 100", 10);
        fault("ewe wants 1000", 10);
        fault("ewe wants 4294967297", 10);
        fault("ewe wants 3 3", 12);
        fault("ewe wants 3wants 4", 11);
        fault("ewe wants ;", 10);
        fault("ewe wants x", 10);
        fault("ewe wants -3", 10);
        fault("ewe wants 3.", 11);
        fault("man worn 100", 9);
        fault("man stick dog", 10);
        fault("man limp stick", 9);
        fault("man dog dog", 8);
        fault("man worn 3 dog", 11);
        fault("man;ewe;goat", 8);
        fault("ewe\tman", 3);
        fault("ewe\n", 3);
        fault("ewe,man", 3);
        fault("ewe {", 4);
        fault("ewe `", 4);
        fault("ewe /", 4);
        fault("ewe :", 4);
        fault("ewe;man dog?;goat", 11);
    }

    private static void faultsOfTooMany() {
        FlockCounts x = new FlockCounts();
        for (int s = 0; s < 7; s++) {
            x.sheep(0);
        }
        for (int m = 0; m < 5; m++) {
            x.man(0);
        }
        due.is("a 9th", fell(x, "tup; lamb wants 500"), -6);
        due.is("a 7th man", fell(x, "man; man cat"), -6);
        due.is("none came", x.count(0) + x.count(1), 12);
        due.is("the last of both", fell(x, "man limp; tup"), 2);
        due.is("a 9th again", fell(x, "sheep"), -1);
        due.is("a 7th man again", fell(x, " man"), -2);
        due.is("no finding", x.status(-1), 0);
    }
}
