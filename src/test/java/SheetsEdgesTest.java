import java.util.ArrayList;
import java.util.List;

/** Boundary cases of promises 31 to 36: sheets. */
public final class SheetsEdgesTest {
    private static final Edges edges = new Edges("SheetsEdgesTest", 31, 36);
    private static final Scene EMPTY = new Scene();
    /** Sheet 0: 8 bits 1, -2, 3; sheet 1: 16 bits 400, 0, -5, 7; sheet 2: 64 bits 2 to the 40th, 9; 3 is MISSING. */
    private static final Scene BUSY = Scene.busy();
    private static final Scene FULL = Scene.full();
    private static final Scene TWO = EMPTY.sheet(0, 16, 10, 11, 12, 13, 14).sheet(1, 16, 20, 21, 22);

    public static void main(String[] args) {
        sheetMade();
        sheetMissing();
        sheetRefused();
        writtenBits();
        writeMade();
        writeRefused();
        copyMade();
        copyOverItself();
        copyRefusedBySheets();
        copyRefusedByNumbers();
        laysMade();
        laysRefused();
        book();
        bookRefused();
        read();
        readAtTheEdges();
        readRefused();
        edges.end();
    }

    private static String[] zeros(int s, int bits, int n) {
        List<String> rows = new ArrayList<>(List.of("sheet " + s + " " + n, "sheet " + s + " bits " + bits));
        for (int i = 0; i < n; i++) {
            rows.add("sheet " + s + " number " + i + " 0");
        }
        return rows.toArray(new String[0]);
    }

    private static void sheetMade() {
        edges.sentence(31, "A sheet has n numbers, all 0, of 8, 16 or 64 bits");
        for (int width : new int[] {8, 16, 64}) {
            for (int many : new int[] {0, 1, 39, 40}) {
                edges.does("sheet(3, " + width + ", " + many + ")", many, BUSY, x -> x.sheet(3, width, many),
                    zeros(3, width, many));
            }
        }
        edges.does("sheet(0, 8, 3), as it was", 3, BUSY, x -> x.sheet(0, 8, 3), "sheet 0 number 0 0",
            "sheet 0 number 1 0", "sheet 0 number 2 0");
        edges.does("sheet(0, 64, 1), one of three", 1, BUSY, x -> x.sheet(0, 64, 1), "sheet 0 1", "sheet 0 bits 64",
            "sheet 0 number 0 0", "sheet 0 number 1 gone", "sheet 0 number 2 gone");
        edges.does("sheet(0, 16, 0), none of three", 0, BUSY, x -> x.sheet(0, 16, 0), "sheet 0 0", "sheet 0 bits 16",
            "sheet 0 number 0 gone", "sheet 0 number 1 gone", "sheet 0 number 2 gone");
        edges.becomes("sheet(0, 8, 3) behind sheet(0, 8, 0)", 3, BUSY.then(x -> x.sheet(0, 8, 0)),
            x -> x.sheet(0, 8, 3), BUSY.sheet(0, 8, 0, 0, 0));
        edges.sentence(Edges.TERMS,
            "SHEETS 0 to 3 are rows of at most 40 numbers of 8, 16 or 64 bits, or MISSING (at first).");
        for (int sheet = 0; sheet < 4; sheet++) {
            int s = sheet;
            edges.refused("lays(" + s + ") at first", Due.MISSING, EMPTY, x -> x.lays(s));
            edges.does("sheet(" + s + ", 8, 1)", 1, EMPTY, x -> x.sheet(s, 8, 1), zeros(s, 8, 1));
        }
    }

    private static void sheetMissing() {
        String[] gone = {"sheet 0 " + Due.MISSING, "sheet 0 bits gone", "sheet 0 number 0 gone",
            "sheet 0 number 1 gone", "sheet 0 number 2 gone"};
        edges.sentence(31, "bits 0: it is MISSING: n (0 if it is MISSING).");
        edges.does("sheet(0, 0, 0)", 0, BUSY, x -> x.sheet(0, 0, 0), gone);
        edges.does("sheet(0, 0, 1)", 0, BUSY, x -> x.sheet(0, 0, 1), gone);
        edges.does("sheet(0, 0, 40)", 0, BUSY, x -> x.sheet(0, 0, 40), gone);
        edges.tells("sheet(3, 0, 40), MISSING already", 0, BUSY, x -> x.sheet(3, 0, 40));
        edges.becomes("sheet(0, 8, 2) behind sheet(0, 0, 5)", 2, BUSY.then(x -> x.sheet(0, 0, 5)),
            x -> x.sheet(0, 8, 2), BUSY.sheet(0, 8, 0, 0));
    }

    private static void sheetRefused() {
        edges.sentence(31, "BEYOND: no such sheet, other bits.");
        edges.refusedOutside("sheet(v, 8, 1)", 0, 3, BUSY, (x, v) -> x.sheet(v, 8, 1));
        edges.refusedOutside("sheet(v, 0, 0)", 0, 3, FULL, (x, v) -> x.sheet(v, 0, 0));
        int[] others = {Integer.MIN_VALUE, -64, -8, -1, 1, 7, 9, 15, 17, 24, 32, 63, 65, 128, 256, Integer.MAX_VALUE};
        for (int bits : others) {
            edges.refused("sheet(0, " + bits + ", 1)", Due.BEYOND, BUSY, x -> x.sheet(0, bits, 1));
            edges.refused("sheet(3, " + bits + ", -1)", Due.BEYOND, BUSY, x -> x.sheet(3, bits, -1));
        }
        edges.refusedOutside("sheet(v, 8, -1)", 0, 3, BUSY, (x, v) -> x.sheet(v, 8, -1));
        for (int width : new int[] {0, 8, 16, 64}) {
            edges.sentence(31, "SIZE: n is below 0 (also with bits 0).");
            edges.refused("sheet(0, " + width + ", -1)", Due.SIZE, BUSY, x -> x.sheet(0, width, -1));
            edges.refused("sheet(3, " + width + ", least)", Due.SIZE, BUSY,
                x -> x.sheet(3, width, Integer.MIN_VALUE));
            edges.sentence(31, "BEYOND: n is above 40 (also with bits 0).");
            edges.refused("sheet(0, " + width + ", 41)", Due.BEYOND, BUSY, x -> x.sheet(0, width, 41));
            edges.refused("sheet(3, " + width + ", most)", Due.BEYOND, BUSY,
                x -> x.sheet(3, width, Integer.MAX_VALUE));
        }
    }

    private static void written(int s, long was, long v, long left) {
        if (left == was) {
            edges.tells("write(" + s + ", 0, " + v + ")", was, BUSY, x -> x.write(s, 0, v));
        } else {
            edges.does("write(" + s + ", 0, " + v + ")", was, BUSY, x -> x.write(s, 0, v),
                "sheet " + s + " number 0 " + left);
        }
    }

    private static void writtenBits() {
        edges.sentence(32, "Number i of a sheet becomes v (its lowest bits): what it was.");
        long[][] eight = {{0, 0}, {1, 1}, {127, 127}, {128, -128}, {255, -1}, {256, 0}, {257, 1}, {-1, -1},
            {-128, -128}, {-129, 127}, {Long.MAX_VALUE, -1}, {Long.MIN_VALUE, 0}, {1L << 32 | 5, 5}};
        for (long[] row : eight) {
            written(0, 1, row[0], row[1]);
        }
        long[][] sixteen = {{0, 0}, {255, 255}, {256, 256}, {32767, 32767}, {32768, -32768}, {65535, -1}, {65536, 0},
            {-1, -1}, {-32768, -32768}, {-32769, 32767}, {Long.MAX_VALUE, -1}, {Long.MIN_VALUE, 0}};
        for (long[] row : sixteen) {
            written(1, 400, row[0], row[1]);
        }
        long[] whole = {0, -1, 65536, 1L << 31, 1L << 32, -(1L << 31) - 1, Long.MAX_VALUE, Long.MIN_VALUE, 1L << 40};
        for (long v : whole) {
            written(2, 1L << 40, v, v);
        }
    }

    private static void writeMade() {
        edges.does("write(1, 3, 8), the last", 7, BUSY, x -> x.write(1, 3, 8), "sheet 1 number 3 8");
        edges.does("write(2, 1, 8), the last", 9, BUSY, x -> x.write(2, 1, 8), "sheet 2 number 1 8");
        edges.does("write(3, 39, 0), the 40th", 99, FULL, x -> x.write(3, 39, 0), "sheet 3 number 39 0");
        edges.does("write(0, 0, 0), the first of 40", 60, FULL, x -> x.write(0, 0, 0), "sheet 0 number 0 0");
        edges.does("write(0, 0, 5), the only one", 4, EMPTY.sheet(0, 8, 4), x -> x.write(0, 0, 5),
            "sheet 0 number 0 5");
        edges.tells("a number that is as a finding is none", Due.BEYOND, EMPTY.sheet(0, 64, Due.BEYOND, 0),
            x -> x.write(0, 0, Due.BEYOND));
    }

    private static void writeRefused() {
        edges.sentence(32, "BEYOND: no such sheet.");
        edges.refusedOutside("write(v, 0, 1)", 0, 3, BUSY, (x, v) -> x.write(v, 0, 1));
        edges.refusedOutside("write(v, -1, 1)", 0, 3, EMPTY, (x, v) -> x.write(v, -1, 1));
        edges.sentence(32, "MISSING.");
        edges.refused("write(3, 0, 1)", Due.MISSING, BUSY, x -> x.write(3, 0, 1));
        edges.refused("write(3, -1, 1)", Due.MISSING, BUSY, x -> x.write(3, -1, 1));
        edges.refused("write(0, 0, 1), not any more", Due.MISSING, BUSY.then(x -> x.sheet(0, 0, 3)),
            x -> x.write(0, 0, 1));
        edges.sentence(32, "BEYOND: no such number.");
        edges.refusedOutside("write(0, v, 1) of three", 0, 2, BUSY, (x, v) -> x.write(0, v, 1));
        edges.refusedOutside("write(1, v, 1) of four", 0, 3, BUSY, (x, v) -> x.write(1, v, 1));
        edges.refusedOutside("write(2, v, 1) of two", 0, 1, BUSY, (x, v) -> x.write(2, v, 1));
        edges.refusedOutside("write(3, v, 1) of 40", 0, 39, FULL, (x, v) -> x.write(3, v, 1));
        edges.refused("write(0, 0, 1) of none", Due.BEYOND, EMPTY.sheet(0, 8), x -> x.write(0, 0, 1));
    }

    private static void copyMade() {
        edges.sentence(33, "n numbers of a sheet from one on come to another one from one on (as they all were): n.");
        edges.does("one, first to first", 1, TWO, x -> x.copy(0, 0, 1, 0, 1), "sheet 1 number 0 10");
        edges.does("one, last to last", 1, TWO, x -> x.copy(0, 4, 1, 2, 1), "sheet 1 number 2 14");
        edges.does("as many as the other has", 3, TWO, x -> x.copy(0, 2, 1, 0, 3), "sheet 1 number 0 12",
            "sheet 1 number 1 13", "sheet 1 number 2 14");
        edges.does("as many as it has", 3, TWO, x -> x.copy(1, 0, 0, 2, 3), "sheet 0 number 2 20",
            "sheet 0 number 3 21", "sheet 0 number 4 22");
        edges.tells("none", 0, TWO, x -> x.copy(0, 0, 1, 0, 0));
        edges.tells("none, behind the last ones", 0, TWO, x -> x.copy(0, 5, 1, 3, 0));
        edges.tells("none of none", 0, EMPTY.sheet(0, 8).sheet(1, 8), x -> x.copy(0, 0, 1, 0, 0));
        edges.tells("40 of 40, alike", 40, FULL, x -> x.copy(0, 0, 3, 0, 40));
        edges.becomes("40 of 40", 40, EMPTY.then(x -> {
            x.sheet(0, 64, 40);
            x.sheet(1, 64, 40);
            x.write(0, 0, Long.MIN_VALUE);
            x.write(0, 39, Long.MAX_VALUE);
        }), x -> x.copy(0, 0, 1, 0, 40), EMPTY.then(x -> {
            x.sheet(0, 64, 40);
            x.sheet(1, 64, 40);
            for (int s = 0; s < 2; s++) {
                x.write(s, 0, Long.MIN_VALUE);
                x.write(s, 39, Long.MAX_VALUE);
            }
        }));
    }

    private static void copyOverItself() {
        edges.does("up by one", 4, TWO, x -> x.copy(0, 0, 0, 1, 4), "sheet 0 number 1 10", "sheet 0 number 2 11",
            "sheet 0 number 3 12", "sheet 0 number 4 13");
        edges.does("down by one", 4, TWO, x -> x.copy(0, 1, 0, 0, 4), "sheet 0 number 0 11", "sheet 0 number 1 12",
            "sheet 0 number 2 13", "sheet 0 number 3 14");
        edges.tells("onto the same place", 5, TWO, x -> x.copy(0, 0, 0, 0, 5));
    }

    private static void copyRefusedBySheets() {
        edges.sentence(33, "BEYOND: no such sheet (either).");
        edges.refusedOutside("copy(v, 0, 0, 0, 1)", 0, 3, BUSY, (x, v) -> x.copy(v, 0, 0, 0, 1));
        edges.refusedOutside("copy(0, 0, v, 0, 1)", 0, 3, BUSY, (x, v) -> x.copy(0, 0, v, 0, 1));
        edges.refusedOutside("copy(v, 0, v, 0, 1)", 0, 3, BUSY, (x, v) -> x.copy(v, 0, v, 0, 1));
        edges.refusedOutside("copy(v, 0, 3, 0, -1), to a MISSING one", 0, 3, BUSY, (x, v) -> x.copy(v, 0, 3, 0, -1));
        edges.refusedOutside("copy(3, 0, v, 0, -1), of a MISSING one", 0, 3, BUSY, (x, v) -> x.copy(3, 0, v, 0, -1));
        edges.sentence(33, "MISSING: one is.");
        edges.refused("copy(3, 0, 0, 0, 1)", Due.MISSING, BUSY, x -> x.copy(3, 0, 0, 0, 1));
        edges.refused("copy(0, 0, 3, 0, 1)", Due.MISSING, BUSY, x -> x.copy(0, 0, 3, 0, 1));
        edges.refused("copy(3, 0, 3, 0, 0)", Due.MISSING, BUSY, x -> x.copy(3, 0, 3, 0, 0));
        edges.refused("copy(3, -1, 0, -1, -1)", Due.MISSING, BUSY, x -> x.copy(3, -1, 0, -1, -1));
        edges.sentence(33, "KIND: they are not of as many bits.");
        int[][] pairs = {{0, 1}, {1, 0}, {0, 2}, {2, 0}, {1, 2}, {2, 1}};
        for (int[] pair : pairs) {
            String of = "copy of " + pair[0] + " to " + pair[1];
            edges.refused(of, Due.KIND, BUSY, x -> x.copy(pair[0], 0, pair[1], 0, 1));
            edges.refused(of + ", none", Due.KIND, BUSY, x -> x.copy(pair[0], 0, pair[1], 0, 0));
            edges.refused(of + ", from -1", Due.KIND, BUSY, x -> x.copy(pair[0], -1, pair[1], 0, 1));
            edges.refused(of + ", too many", Due.KIND, BUSY, x -> x.copy(pair[0], 0, pair[1], 0, 41));
        }
    }

    private static void copyRefusedByNumbers() {
        int most = Integer.MAX_VALUE;
        int least = Integer.MIN_VALUE;
        edges.sentence(33, "BEYOND: one has not so many, or from, to or n is below 0.");
        int[][] runs = {{-1, 0, 1}, {-1, 0, 0}, {least, 0, 1}, {0, -1, 1}, {0, -1, 0}, {0, least, 1}, {0, 0, -1},
            {0, 0, least}, {1, 1, -1}, {5, 3, -1}, {3, 0, 3}, {5, 0, 1}, {6, 0, 0}, {most, 0, 0}, {most, 0, 1},
            {0, 0, 4}, {0, 1, 3}, {0, 3, 1}, {0, 4, 0}, {0, most, 0}, {0, most, 1}, {0, 0, 5}, {0, 0, 6}, {0, 0, most},
            {1, 1, most}, {most, most, most}, {most, most, 2}, {least, least, least}, {-1, -1, -1}};
        for (int[] run : runs) {
            String of = "copy from " + run[0] + " to " + run[1] + " of " + run[2];
            edges.refused(of, Due.BEYOND, TWO, x -> x.copy(0, run[0], 1, run[1], run[2]));
        }
        edges.refused("six of five, over itself", Due.BEYOND, TWO, x -> x.copy(0, 0, 0, 0, 6));
        edges.refused("one of none", Due.BEYOND, EMPTY.sheet(0, 8).sheet(1, 8, 1), x -> x.copy(0, 0, 1, 0, 1));
        edges.refused("one to none", Due.BEYOND, EMPTY.sheet(0, 8).sheet(1, 8, 1), x -> x.copy(1, 0, 0, 0, 1));
        edges.refused("41 of 40", Due.BEYOND, FULL, x -> x.copy(0, 0, 3, 0, 41));
        edges.refused("40 of 40 from 1 on", Due.BEYOND, FULL, x -> x.copy(0, 1, 3, 0, 40));
        edges.refused("40 of 40 to 1 on", Due.BEYOND, FULL, x -> x.copy(0, 0, 3, 1, 40));
    }

    private static void laysMade() {
        edges.sentence(34, "(those that aren't 0 to 99, or stand for none, are left out): how many came.");
        edges.does("1, -2, 3 for three", 2, BUSY, x -> x.lays(0), "sheep 0 wants 1", "sheep 2 wants 3");
        edges.tells("400, 0, -5, 7 for three", 1, BUSY, x -> x.lays(1));
        edges.does("2 to the 40th, 9 for three", 1, BUSY, x -> x.lays(2), "sheep 1 wants 9");
        Scene four = EMPTY.flock(4, 0, 50);
        edges.does("-1, 0, 99, 100", 2, four.sheet(0, 64, -1, 0, 99, 100), x -> x.lays(0), "sheep 1 wants 0",
            "sheep 2 wants 99");
        edges.does("1, 98 in 8 bits", 2, four.sheet(0, 8, 1, 98), x -> x.lays(0), "sheep 0 wants 1",
            "sheep 1 wants 98");
        edges.tells("those with 5 for their lowest bits", 0,
            four.sheet(0, 64, 1L << 32 | 5, 1L << 63 | 5, 261, 1L << 16 | 5), x -> x.lays(0));
        edges.tells("no numbers", 0, four.sheet(0, 8), x -> x.lays(0));
        edges.tells("no sheep", 0, EMPTY.sheet(0, 8, 1, 2, 3), x -> x.lays(0));
        edges.tells("neither", 0, EMPTY.sheet(0, 8), x -> x.lays(0));
        edges.does("one more than there are sheep", 4, four.sheet(0, 8, 1, 50, 50, 2, 3), x -> x.lays(0),
            "sheep 0 wants 1", "sheep 3 wants 2");
        edges.does("one less than there are sheep", 3, four.sheet(0, 8, 50, 50, 2), x -> x.lays(0),
            "sheep 2 wants 2");
        edges.becomes("40 for eight", 8, EMPTY.flock(8, 1, 50).then(x -> x.sheet(0, 16, 40)), x -> x.lays(0),
            EMPTY.flock(8, 1, 0).then(x -> x.sheet(0, 16, 40)));
    }

    private static void laysRefused() {
        edges.sentence(34, "BEYOND: no such sheet.");
        edges.refusedOutside("lays", 0, 3, EMPTY, (x, v) -> x.lays(v));
        edges.refusedOutside("lays", 0, 3, BUSY, (x, v) -> x.lays(v));
        edges.refusedOutside("lays", 0, 3, FULL, (x, v) -> x.lays(v));
        edges.sentence(34, "MISSING.");
        edges.refused("lays(3)", Due.MISSING, BUSY, x -> x.lays(3));
        edges.refused("lays(0), not any more", Due.MISSING, BUSY.then(x -> x.sheet(0, 0, 0)), x -> x.lays(0));
    }

    private static void book() {
        edges.sentence(35,
            "WANTS of one ON 0, 1, 2, .. MINUTES comes to a sheet, as many as it has numbers: how many.");
        // nobody passes, then one without a stick
        edges.does("three", 3, BUSY, x -> x.book(0, 0), "sheet 0 number 0 45", "sheet 0 number 1 46",
            "sheet 0 number 2 42");
        edges.does("one", 1, EMPTY.man(0, 0).sheep(0, 99).sheet(0, 8, 5), x -> x.book(0, 0), "sheet 0 number 0 99");
        edges.tells("none", 0, EMPTY.man(0, 0).sheep(0, 99).sheet(0, 8), x -> x.book(0, 0));
        long[] forty = new long[40];
        for (int i = 0; i < forty.length; i++) {
            forty[i] = i == 0 ? 99 : 96 - i;
        }
        for (int width : new int[] {8, 16, 64}) {
            edges.becomes("forty of " + width + " bits", 40,
                EMPTY.man(0, 0).sheep(0, 99).then(x -> x.sheet(2, width, 40)), x -> x.book(2, 0),
                EMPTY.man(0, 0).sheep(0, 99).sheet(2, width, forty));
        }
        edges.does("the 8th, asleep", 2, EMPTY.man(0, 0).flock(7, 0, 99).sheep(0, 0).sheet(3, 8, 5, 6),
            x -> x.book(3, 7), "sheet 3 number 0 0", "sheet 3 number 1 0");
    }

    private static void bookRefused() {
        edges.sentence(35, "BEYOND: no such sheet.");
        edges.refusedOutside("book(v, 0)", 0, 3, BUSY, (x, v) -> x.book(v, 0));
        edges.refusedOutside("book(v, -1)", 0, 3, EMPTY, (x, v) -> x.book(v, -1));
        edges.sentence(35, "MISSING.");
        edges.refused("book(3, 0)", Due.MISSING, BUSY, x -> x.book(3, 0));
        edges.refused("book(3, 3), no such sheep", Due.MISSING, BUSY, x -> x.book(3, 3));
        edges.sentence(35, "BEYOND: sheep.");
        edges.refusedOutside("book(0, v) of three", 0, 2, BUSY, (x, v) -> x.book(0, v));
        edges.refusedOutside("book(3, v) of eight", 0, 7, FULL, (x, v) -> x.book(3, v));
        edges.refused("book(0, 0) of none", Due.BEYOND, EMPTY.sheet(0, 8, 1), x -> x.book(0, 0));
        edges.refused("book(0, 0) of none, no numbers", Due.BEYOND, EMPTY.sheet(0, 8), x -> x.book(0, 0));
    }

    private static void read() {
        Scene one = EMPTY.man(0, 0).sheep(3, 20);
        edges.sentence(36, "how many pairs of a KIND and WANTS (0 to 99) of it make it just so.");
        edges.tells("no numbers", 600, one.sheet(0, 8), x -> x.read(0, 0));
        edges.tells("0", 600, one.sheet(0, 8, 0), x -> x.read(0, 0));
        edges.tells("1", 0, one.sheet(0, 8, 1), x -> x.read(0, 0));
        edges.tells("-1", 0, one.sheet(0, 8, -1), x -> x.read(0, 0));
        edges.tells("0, 0: it slept", 6, one.sheet(0, 8, 0, 0), x -> x.read(0, 0));
        edges.tells("0, 1: it did not", 594, one.sheet(0, 8, 0, 1), x -> x.read(0, 0));
        edges.tells("0, 1, 1: one was enough", 28, one.sheet(0, 8, 0, 1, 1), x -> x.read(0, 0));
        edges.tells("0, 1, 2: it was not", 566, one.sheet(0, 8, 0, 1, 2), x -> x.read(0, 0));
        edges.tells("0, 1, 0", 0, one.sheet(0, 8, 0, 1, 0), x -> x.read(0, 0));
        edges.tells("the last number is looked at", 0, one.sheet(0, 8, 0, 1, 3), x -> x.read(0, 0));
        long[] forty = new long[40];
        for (int i = 0; i < forty.length; i++) {
            forty[i] = i;
        }
        // awake behind 38 passings: from 42, 42, 83, 5, 23 and 5 on
        edges.tells("0 to 39", 58 + 58 + 17 + 95 + 77 + 95, one.sheet(0, 64, forty), x -> x.read(0, 0));
        forty[39] = 38;
        // asleep behind 38, not behind 37: 41, 41, 81 and 82, none, none, none
        edges.tells("0 to 38, and 38 again", 4, one.sheet(0, 64, forty), x -> x.read(0, 0));
    }

    private static void readAtTheEdges() {
        Scene held = EMPTY.man(0, 0).sheep(0, 50, 9998);
        edges.tells("9998, 9999, 9999: held", 594, held.sheet(0, 16, 9998, 9999, 9999), x -> x.read(0, 0));
        edges.tells("9998, 9999, 10000", 0, held.sheet(0, 16, 9998, 9999, 10000), x -> x.read(0, 0));
        edges.tells("127 in 8 bits", 600, EMPTY.sheep(0, 50, 127).sheet(0, 8, 127), x -> x.read(0, 0));
        edges.tells("128 in 8 bits", 0, EMPTY.sheep(0, 50, 128).sheet(0, 8, 128), x -> x.read(0, 0));
        edges.tells("128 in 16 bits", 600, EMPTY.sheep(0, 50, 128).sheet(0, 16, 128), x -> x.read(0, 0));
        edges.tells("0 for 256 in 8 bits", 0, EMPTY.sheep(0, 50, 256).sheet(0, 8, 256), x -> x.read(0, 0));
        edges.tells("the 8th", 600, EMPTY.flock(7, 0, 1).sheep(0, 1, 4).sheet(3, 8, 4, 4), x -> x.read(3, 7));
        // as a lamb it doesn't wear him out: he passes a second time by a lamb of 9 to 99 alone
        edges.tells("he is worn by what it is", 91, EMPTY.man(0, 98).sheep(0, 50).sheet(0, 8, 0, 1, 2),
            x -> x.read(0, 0));
    }

    private static void readRefused() {
        edges.sentence(36, "BEYOND: no such sheet.");
        edges.refusedOutside("read(v, 0)", 0, 3, BUSY, (x, v) -> x.read(v, 0));
        edges.refusedOutside("read(v, -1)", 0, 3, EMPTY, (x, v) -> x.read(v, -1));
        edges.sentence(36, "MISSING.");
        edges.refused("read(3, 0)", Due.MISSING, BUSY, x -> x.read(3, 0));
        edges.refused("read(3, 3), no such sheep", Due.MISSING, BUSY, x -> x.read(3, 3));
        edges.sentence(36, "BEYOND: sheep.");
        edges.refusedOutside("read(0, v) of three", 0, 2, BUSY, (x, v) -> x.read(0, v));
        edges.refusedOutside("read(3, v) of eight", 0, 7, FULL, (x, v) -> x.read(3, v));
        edges.refused("read(0, 0) of none", Due.BEYOND, EMPTY.sheet(0, 8, 1), x -> x.read(0, 0));
        edges.refused("read(0, 0) of none, no numbers", Due.BEYOND, EMPTY.sheet(0, 8), x -> x.read(0, 0));
    }
}
