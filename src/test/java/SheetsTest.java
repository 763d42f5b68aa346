/** Promises 31 to 36: sheets. */
public final class SheetsTest {
    private static final Due due = new Due("SheetsTest");

    public static void main(String[] args) {
        sheet();
        write();
        copy();
        copyFindings();
        lays();
        book();
        read();
        due.end();
    }

    private static void sheet() {
        FlockCounts x = new FlockCounts();
        due.is("sheet(-1, 8, 1)", x.sheet(-1, 8, 1), Due.BEYOND);
        due.is("sheet(4, 8, 1)", x.sheet(4, 8, 1), Due.BEYOND);
        due.is("sheet(4, 8, -1)", x.sheet(4, 8, -1), Due.BEYOND);
        due.is("sheet(0, 32, 1)", x.sheet(0, 32, 1), Due.BEYOND);
        due.is("sheet(0, 32, -1)", x.sheet(0, 32, -1), Due.BEYOND);
        due.is("sheet(0, -8, 1)", x.sheet(0, -8, 1), Due.BEYOND);
        due.is("sheet(0, 8, -1)", x.sheet(0, 8, -1), Due.SIZE);
        due.is("sheet(0, 0, -1)", x.sheet(0, 0, -1), Due.SIZE);
        due.is("sheet(0, 8, 41)", x.sheet(0, 8, 41), Due.BEYOND);
        due.is("sheet(0, 0, 41)", x.sheet(0, 0, 41), Due.BEYOND);
        due.is("it is still missing", x.lays(0), Due.MISSING);
        due.is("status SIZE", x.status(6), 2);
        due.is("sheet(0, 8, 40)", x.sheet(0, 8, 40), 40);
        due.is("sheet(3, 16, 1)", x.sheet(3, 16, 1), 1);
        due.is("sheet(1, 64, 0)", x.sheet(1, 64, 0), 0);
        due.is("one of no numbers isn't missing", x.lays(1), 0);
        x.write(0, 0, 3);
        x.write(0, 39, 5);
        due.is("a finding changes nothing", x.sheet(0, 8, 41), Due.BEYOND);
        due.is("the number stays", x.write(0, 39, 6), 5);
        due.is("anew", x.sheet(0, 8, 40), 40);
        due.is("all 0, the first", x.write(0, 0, 7), 0);
        due.is("all 0, the last", x.write(0, 39, 7), 0);
        due.is("missing again", x.sheet(0, 0, 40), 0);
        due.is("it is", x.write(0, 39, 7), Due.MISSING);
    }

    private static void write() {
        FlockCounts x = new FlockCounts();
        due.is("write(4, 0, 0)", x.write(4, 0, 0), Due.BEYOND);
        due.is("write(-1, 0, 0)", x.write(-1, 0, 0), Due.BEYOND);
        due.is("missing before beyond", x.write(0, -1, 0), Due.MISSING);
        x.sheet(0, 8, 2);
        x.sheet(1, 16, 2);
        x.sheet(2, 64, 2);
        due.is("number 2", x.write(0, 2, 0), Due.BEYOND);
        due.is("number -1", x.write(0, -1, 0), Due.BEYOND);
        long v = 0x123456789abcdef0L;
        for (int s = 0; s < 3; s++) {
            due.is("first was 0", x.write(s, 1, v), 0);
        }
        due.is("8 bits", x.write(0, 1, 127), (byte) 0xf0);
        due.is("8 bits", x.write(0, 1, 256), 127);
        due.is("8 bits", x.write(0, 1, -1), 0);
        due.is("8 bits", x.write(0, 1, 128), -1);
        due.is("8 bits", x.write(0, 1, 0), -128);
        due.is("16 bits", x.write(1, 1, 32767), (short) 0xdef0);
        due.is("16 bits", x.write(1, 1, 65536), 32767);
        due.is("16 bits", x.write(1, 1, 32768), 0);
        due.is("16 bits", x.write(1, 1, 0), -32768);
        due.is("64 bits", x.write(2, 1, Long.MIN_VALUE), v);
        due.is("64 bits", x.write(2, 1, 0), Long.MIN_VALUE);
        due.is("another number stays", x.write(2, 0, 0), 0);
        due.is("status", x.status(-1), 5);
    }

    private static FlockCounts fiveAndFive() {
        FlockCounts x = new FlockCounts();
        x.sheet(0, 16, 5);
        x.sheet(1, 16, 5);
        for (int i = 0; i < 5; i++) {
            x.write(0, i, 10 + i);
            x.write(1, i, 20 + i);
        }
        return x;
    }

    private static void isRow(String call, FlockCounts x, int s, int... row) {
        for (int i = 0; i < row.length; i++) {
            due.is(call + ", number " + i, x.write(s, i, row[i]), row[i]);
        }
    }

    private static void copy() {
        FlockCounts x = fiveAndFive();
        due.is("copy(0, 1, 1, 2, 3)", x.copy(0, 1, 1, 2, 3), 3);
        isRow("to another", x, 1, 20, 21, 11, 12, 13);
        isRow("from it", x, 0, 10, 11, 12, 13, 14);
        due.is("copy(0, 0, 0, 1, 4)", x.copy(0, 0, 0, 1, 4), 4);
        isRow("up", x, 0, 10, 10, 11, 12, 13);
        due.is("copy(0, 1, 0, 0, 4)", x.copy(0, 1, 0, 0, 4), 4);
        isRow("down", x, 0, 10, 11, 12, 13, 13);
        due.is("copy(0, 5, 1, 5, 0)", x.copy(0, 5, 1, 5, 0), 0);
        due.is("copy(0, 0, 1, 0, 5)", x.copy(0, 0, 1, 0, 5), 5);
        isRow("whole", x, 1, 10, 11, 12, 13, 13);
    }

    private static void copyFindings() {
        FlockCounts x = fiveAndFive();
        x.sheet(2, 8, 5);
        due.is("sheet 4", x.copy(4, 0, 0, 0, 1), Due.BEYOND);
        due.is("to sheet -1", x.copy(0, 0, -1, 0, 1), Due.BEYOND);
        due.is("beyond before missing", x.copy(3, 0, 4, 0, 1), Due.BEYOND);
        due.is("from a missing one", x.copy(3, 0, 0, 0, 1), Due.MISSING);
        due.is("to a missing one", x.copy(0, 0, 3, 0, -1), Due.MISSING);
        due.is("other bits", x.copy(0, 0, 2, 0, 1), Due.KIND);
        due.is("other bits before beyond", x.copy(2, -1, 0, 0, 1), Due.KIND);
        int[][] beyond = {{-1, 0, 1}, {0, -1, 1}, {0, 0, -1}, {1, 0, 5}, {0, 1, 5}, {6, 0, 0}, {0, 6, 0}, {0, 0, 6},
            {Integer.MAX_VALUE, 0, Integer.MAX_VALUE}, {1, 1, Integer.MAX_VALUE}, {5, 5, Integer.MIN_VALUE}};
        for (int[] run : beyond) {
            due.is("beyond", x.copy(0, run[0], 1, run[1], run[2]), Due.BEYOND);
        }
        isRow("it stays", x, 1, 20, 21, 22, 23, 24);
    }

    private static void lays() {
        FlockCounts x = new FlockCounts();
        due.is("lays(4)", x.lays(4), Due.BEYOND);
        due.is("lays(-1)", x.lays(-1), Due.BEYOND);
        due.is("lays(0)", x.lays(0), Due.MISSING);
        x.sheet(0, 64, 6);
        long[] row = {0, 99, 100, -1, (1L << 32) + 5, 7};
        for (int i = 0; i < row.length; i++) {
            x.write(0, i, row[i]);
        }
        due.is("none there", x.lays(0), 0);
        for (int s = 0; s < 7; s++) {
            x.sheep(0);
        }
        due.is("three came", x.lays(0), 3);
        int[] wants = {0, 99, 20, 20, 20, 7, 20};
        for (int s = 0; s < wants.length; s++) {
            due.is("wants of " + s, x.of(s, 1), wants[s]);
        }
        x.sheet(1, 8, 40);
        due.is("as many as there are sheep", x.lays(1), 7);
    }

    private static void book() {
        FlockCounts x = new FlockCounts();
        due.is("book(4, 0)", x.book(4, 0), Due.BEYOND);
        due.is("book(-1, 0)", x.book(-1, 0), Due.BEYOND);
        due.is("missing before beyond", x.book(0, 0), Due.MISSING);
        x.sheet(0, 8, 5);
        due.is("no sheep", x.book(0, 0), Due.BEYOND);
        due.is("sheep -1", x.book(0, -1), Due.BEYOND);
        x.sheep(0);
        x.sheep(2);
        x.man(1);
        x.man(6);
        x.dress(1, 1, 99);
        due.is("book(0, 1)", x.book(0, 1), 5);
        isRow("the lamb", x, 0, 20, 12, 14, 6, 8);
        due.is("book(0, 0)", x.book(0, 0), 5);
        isRow("the sheep", x, 0, 20, 16, 16, 12, 12);
        due.is("nothing changed", x.now(0), 0);
        due.is("nothing changed", x.of(1, 1), 20);
    }

    private static void read() {
        FlockCounts x = new FlockCounts();
        due.is("read(4, 0)", x.read(4, 0), Due.BEYOND);
        due.is("read(-1, 0)", x.read(-1, 0), Due.BEYOND);
        due.is("missing before beyond", x.read(0, 0), Due.MISSING);
        x.sheet(0, 8, 0);
        due.is("no sheep", x.read(0, 0), Due.BEYOND);
        due.is("sheep -1", x.read(0, -1), Due.BEYOND);
        x.sheep(3);
        due.is("no numbers: all pairs", x.read(0, 0), 600);
        x.sheet(0, 8, 1);
        due.is("0 now: all pairs", x.read(0, 0), 600);
        x.set(0, 2, 5);
        due.is("5 now: none", x.read(0, 0), 0);
        x.write(0, 0, 5);
        due.is("5 it is", x.read(0, 0), 600);
        x.sheet(0, 8, 3);
        x.man(0);
        x.write(0, 0, 5);
        x.write(0, 1, 6);
        x.write(0, 2, 6);
        // one passing was enough: WANTS 1 to 4, as a lamb 1 to 8
        due.is("one passing", x.read(0, 0), 28);
        x.write(0, 2, 7);
        due.is("two passings", x.read(0, 0), 600 - 28 - 6);
        x.write(0, 1, 5);
        due.is("none, then two", x.read(0, 0), 0);
        x.write(0, 2, 5);
        due.is("it slept", x.read(0, 0), 6);
        due.is("nothing changed", x.of(0, 1), 20);
        due.is("nothing changed", x.of(0, 0), 3);
    }
}
