import java.util.function.LongSupplier;

/** Promises 37 to 41: images, count and status. */
public final class ImagesTest {
    private static final Due due = new Due("ImagesTest");

    public static void main(String[] args) {
        imageAndUndo();
        tear();
        count();
        status();
        statusOfEveryCall();
        due.end();
    }

    private static void imageAndUndo() {
        FlockCounts x = new FlockCounts();
        due.is("undo of nothing", x.undo(), Due.NONE);
        x.sheep(4);
        x.sheep(2);
        x.man(3);
        x.man(4);
        x.set(0, 1, 50);
        x.minutes(3);
        x.sheet(0, 8, 2);
        Due.feed(x, "tup");
        due.is("image", x.image(), 1);
        int[] was = seenOf(x);
        x.minutes(7);
        x.sheep(0);
        x.man(7);
        x.turn(0, 1);
        x.set(1, 2, 77);
        x.dress(0, 0, 6);
        x.dress(1, 1, 55);
        x.first(2);
        x.write(0, 0, 9);
        Due.feed(x, "s");
        x.sheep(9);
        due.is("undo", x.undo(), 2);
        isSame("undone", x, was);
        due.is("the tape is not", x.count(2), 4);
        due.is("sheets are not", x.write(0, 0, 9), 9);
        due.is("status is not", x.status(-1), 2);
        x.goesHome();
        x.goesHome();
        x.minutes(1);
        due.is("it stays kept", x.undo(), 2);
        isSame("undone again", x, was);
        x.sheep(5);
        due.is("a later image", x.image(), 1);
        x.sheep(5);
        due.is("undo to the later", x.undo(), 3);

        x = new FlockCounts();
        x.image();
        x.sheep(3);
        x.set(0, 2, 5);
        x.set(0, 1, 6);
        x.man(7);
        x.dress(0, 1, 8);
        due.is("undo to nobody", x.undo(), 0);
        x.sheep(3);
        x.man(1);
        due.is("a new one has seen none", x.of(0, 2), 0);
        due.is("a new one wants 20", x.of(0, 1), 20);
        due.is("a new man isn't worn", x.manOf(0, 1), 0);
    }

    private static int[] seenOf(FlockCounts x) {
        int[] all = new int[7 + 6 + 4];
        for (int what = 0; what < 7; what++) {
            all[what] = x.now(what);
        }
        for (int s = 0; s < 2; s++) {
            for (int what = 0; what < 3; what++) {
                all[7 + 3 * s + what] = x.of(s, what);
            }
        }
        for (int m = 0; m < 2; m++) {
            all[13 + 2 * m] = x.manOf(m, 0);
            all[14 + 2 * m] = x.manOf(m, 1);
        }
        return all;
    }

    private static void isSame(String when, FlockCounts x, int[] was) {
        int[] is = seenOf(x);
        for (int i = 0; i < was.length; i++) {
            due.is(when + ", row " + i, is[i], was[i]);
        }
        due.is(when + ", sheep", x.count(0), 2);
        due.is(when + ", men", x.count(1), 2);
    }

    private static void tear() {
        FlockCounts x = new FlockCounts();
        due.is("tear nothing", x.tear(), 0);
        x.image();
        x.sheep(0);
        x.image();
        due.is("tear", x.tear(), 1);
        due.is("tear again", x.tear(), 0);
        due.is("nothing is kept", x.undo(), Due.NONE);
        due.is("all stays", x.count(0), 1);
    }

    private static void count() {
        FlockCounts x = new FlockCounts();
        x.sheep(0);
        x.sheep(1);
        x.set(0, 2, 9999);
        x.set(1, 2, 9998);
        x.man(0);
        x.feed(0, 3);
        int[] counts = {2, 1, 3, 19997};
        for (int what = 0; what < 4; what++) {
            due.is("count(" + what + ")", x.count(what), counts[what]);
        }
        due.is("count(4)", x.count(4), Due.BEYOND);
        due.is("count(-1)", x.count(-1), Due.BEYOND);
    }

    private static void status() {
        FlockCounts x = new FlockCounts();
        due.is("none at first", x.status(-1), 0);
        due.is("status(-2)", x.status(-2), Due.BEYOND);
        due.is("status(7)", x.status(7), Due.BEYOND);
        due.is("counted from then on", x.status(0), 2);
        due.is("all", x.status(-1), 2);
        x.image();
        for (int m = 0; m < 7; m++) {
            x.man(0);
        }
        x.sheep(0);
        x.as(0, 1);
        x.as(0, 2);
        x.sleeps(0);
        for (int i = 0; i < 3; i++) {
            x.set(0, 1, 99);
            x.turn(0, 3);
            x.swap();
        }
        for (int i = 0; i < 4; i++) {
            x.write(0, 0, 0);
        }
        for (int i = 0; i < 5; i++) {
            x.sheet(0, 8, -1);
        }
        x.undo();
        int[] many = {2, 1, 2, 3, 0, 4, 5};
        for (int which = 0; which < many.length; which++) {
            due.is("status(" + which + ")", x.status(which), many[which]);
        }
        due.is("all in all", x.status(-1), 17);
        due.is("a finding that is long", x.write(9, 0, 0), Due.BEYOND);
        due.is("counted too", x.status(0), 3);
    }

    /** Each call that answers a finding is one more of that finding, and one more of all. */
    private static void statusOfEveryCall() {
        FlockCounts x = new FlockCounts();
        for (int s = 0; s < 8; s++) {
            x.sheep(4);
        }
        counted(x, Due.NONE, () -> x.goesHome());
        counted(x, Due.NONE, () -> x.begin(1));
        for (int m = 0; m < 6; m++) {
            x.man(0);
            x.dress(m, 1, 99);
        }
        for (int i = 0; i < 30; i++) {
            x.feed(0, 4);
        }
        x.sheet(0, 8, 1);
        x.sheet(1, 16, 1);
        countedMenAndSheep(x);
        countedMinutesAndBest(x);
        countedSheets(x);
        counted(x, Due.BEYOND, () -> x.feed(0, 0));
        counted(x, Due.FULL, () -> x.feed(0, 1));
        counted(x, Due.NONE, () -> x.undo());
        counted(x, Due.BEYOND, () -> x.count(4));
        counted(x, Due.BEYOND, () -> x.status(7));
    }

    private static void countedMenAndSheep(FlockCounts x) {
        counted(x, Due.BEYOND, () -> x.man(8));
        counted(x, Due.FULL, () -> x.man(0));
        counted(x, Due.BEYOND, () -> x.manOf(6, 0));
        counted(x, Due.BEYOND, () -> x.dress(6, 0, 0));
        counted(x, Due.BEYOND, () -> x.dress(0, 2, 0));
        counted(x, Due.BEYOND, () -> x.first(6));
        counted(x, Due.BEYOND, () -> x.sheep(6));
        counted(x, Due.FULL, () -> x.sheep(0));
        counted(x, Due.BEYOND, () -> x.of(8, 0));
        counted(x, Due.BEYOND, () -> x.of(0, 6));
        counted(x, Due.BEYOND, () -> x.set(8, 1, 0));
        counted(x, Due.BEYOND, () -> x.set(0, 1, 100));
        counted(x, Due.BEYOND, () -> x.turn(8, 0));
        counted(x, Due.BEYOND, () -> x.as(8, 0));
        counted(x, Due.KIND, () -> x.as(0, 5));
        counted(x, Due.BEYOND, () -> x.counts(8, 0));
    }

    private static void countedMinutesAndBest(FlockCounts x) {
        counted(x, Due.BEYOND, () -> x.minutes(0));
        counted(x, Due.BEYOND, () -> x.now(7));
        counted(x, Due.BEYOND, () -> x.on(8, 0, 0));
        counted(x, Due.BEYOND, () -> x.worn(6, 0));
        counted(x, Due.BEYOND, () -> x.sleeps(8));
        counted(x, Due.NONE, () -> x.sleeps(0));
        counted(x, Due.NONE, () -> x.quiet());
        counted(x, Due.BEYOND, () -> x.bare(6));
        counted(x, Due.BEYOND, () -> x.guise(6));
        counted(x, Due.NONE, () -> x.guise(0));
        counted(x, Due.BEYOND, () -> x.guises(0, 0));
        counted(x, Due.NONE, () -> x.guises(0, 1));
        counted(x, Due.NONE, () -> x.swap());
        counted(x, Due.BEYOND, () -> x.spare(0, 0));
        counted(x, Due.BEYOND, () -> x.kind(8));
        counted(x, Due.NONE, () -> x.kind(0));
        counted(x, Due.BEYOND, () -> x.most(8, 1));
        counted(x, Due.NONE, () -> x.most(0, 1));
        counted(x, Due.BEYOND, () -> x.begin(0));
        x.dress(0, 1, 0);
        x.set(0, 1, 0);
        counted(x, Due.NONE, () -> x.swap());
        FlockCounts other = new FlockCounts();
        counted(other, Due.NONE, () -> other.last());
        other.man(0);
        counted(other, Due.NONE, () -> other.bare(0));
    }

    private static void countedSheets(FlockCounts x) {
        counted(x, Due.BEYOND, () -> x.sheet(4, 8, 0));
        counted(x, Due.SIZE, () -> x.sheet(0, 8, -1));
        counted(x, Due.BEYOND, () -> x.sheet(0, 8, 41));
        counted(x, Due.BEYOND, () -> x.write(4, 0, 0));
        counted(x, Due.MISSING, () -> x.write(2, 0, 0));
        counted(x, Due.BEYOND, () -> x.write(0, 1, 0));
        counted(x, Due.BEYOND, () -> x.copy(0, 0, 4, 0, 0));
        counted(x, Due.MISSING, () -> x.copy(0, 0, 2, 0, 0));
        counted(x, Due.KIND, () -> x.copy(0, 0, 1, 0, 0));
        counted(x, Due.BEYOND, () -> x.copy(0, 0, 0, 0, 2));
        counted(x, Due.BEYOND, () -> x.lays(4));
        counted(x, Due.MISSING, () -> x.lays(2));
        counted(x, Due.BEYOND, () -> x.book(4, 0));
        counted(x, Due.MISSING, () -> x.book(2, 0));
        counted(x, Due.BEYOND, () -> x.book(0, 8));
        counted(x, Due.BEYOND, () -> x.read(4, 0));
        counted(x, Due.MISSING, () -> x.read(2, 0));
        counted(x, Due.BEYOND, () -> x.read(0, 8));
    }

    private static void counted(FlockCounts x, int finding, LongSupplier call) {
        int which = Due.BEYOND - finding;
        int such = x.status(which);
        int all = x.status(-1);
        due.is("a finding", call.getAsLong(), finding);
        due.is("such findings", x.status(which), such + 1);
        due.is("all findings", x.status(-1), all + 1);
    }
}
