/** Boundary cases of promises 37 to 41: images, count and status; and the numbers of the findings. */
public final class ImagesEdgesTest {
    private static final Edges edges = new Edges("ImagesEdgesTest", 37, 41);
    private static final Scene EMPTY = new Scene();
    private static final Scene BUSY = Scene.busy();
    private static final Scene FULL = Scene.full();

    public static void main(String[] args) {
        image();
        imageOfAll();
        undoMade();
        undoToFewAndMany();
        undoRefused();
        tear();
        count();
        statusTold();
        statusKept();
        statusRefused();
        findings();
        edges.end();
    }

    private static void image() {
        edges.sentence(37, "All that section 1 tells (THE TAPE not) is kept: 1.");
        edges.does("of nobody", 1, EMPTY, x -> x.image(), "kept 0", "kept minute 0", "kept last -1", "kept turn -1",
            "kept men 0", "kept sheep 0", "torn 1");
        edges.does("in place of an older one", 1, BUSY, x -> x.image(), "kept minute 1", "kept last 3", "kept turn 1",
            "kept man 0 wear 12", "kept man 2 wear 41", "kept sheep 0 wants 45", "kept sheep 0 seen 4",
            "kept sheep 1 seen 8", "kept sheep 2 wants 24", "kept sheep 2 seen 9001");
        edges.tells("twice the same", 1, BUSY.kept(), x -> x.image());
        edges.becomes("behind two that were torn", 1, EMPTY.sheep(4, 5).kept().sheep(3, 6).then(x -> {
            x.image();
            x.tear();
        }), x -> x.image(), EMPTY.sheep(4, 5).sheep(3, 6).kept());
    }

    /** Whatever comes behind the image is taken back, but for tape, sheets and status. */
    private static void imageOfAll() {
        Scene kept = BUSY.kept();
        edges.becomes("all is taken back", 3, kept.then(x -> {
            x.minutes(5);
            x.goesHome();
            x.goesHome();
            x.man(6);
            x.dress(0, 0, 7);
            x.dress(1, 1, 77);
            x.first(1);
            x.sheep(0);
            x.turn(0, 4);
            x.set(1, 1, 88);
            x.set(2, 2, 0);
            x.lays(0);
        }), x -> x.undo(), kept);
        edges.becomes("a text that came is taken back", 3, kept.then(x -> x.fell()), x -> x.undo(),
            kept.then(x -> x.wipe()));
        edges.does("THE TAPE is not", 3, kept.tape(";ewe"), x -> x.undo());
        edges.does("sheets are not", 3, kept.sheet(0, 64, 5).sheet(3, 8, 6).then(x -> x.sheet(1, 0, 0)),
            x -> x.undo());
    }

    private static void undoMade() {
        edges.sentence(38, "It becomes what was kept latest (which stays): how many SHEEP.");
        edges.does("a minute back", 3, BUSY, x -> x.undo(), "minute 0", "last -1", "turn 0", "man 0 wear 10",
            "man 2 wear 40", "sheep 0 wants 50", "sheep 0 seen 3", "sheep 1 seen 7", "sheep 2 wants 30",
            "sheep 2 seen 9000");
        edges.tells("as it is", 3, BUSY.kept(), x -> x.undo());
        edges.tells("a second time", 3, BUSY.then(x -> x.undo()), x -> x.undo());
        edges.becomes("a second time, from elsewhere", 3, BUSY.then(x -> {
            x.undo();
            x.minutes(9);
            x.set(0, 1, 1);
        }), x -> x.undo(), BUSY.then(x -> x.undo()));
    }

    private static void undoToFewAndMany() {
        Scene nobody = EMPTY.kept();
        edges.becomes("to nobody", 0, nobody.men(6, 1, 2).flock(8, 3, 4).minutes(7), x -> x.undo(), nobody);
        Scene one = EMPTY.man(5, 6).sheep(4, 7, 8).kept();
        edges.becomes("to one, from many", 1, one.men(5, 1, 2).flock(7, 3, 4).minutes(7).first(5), x -> x.undo(), one);
        Scene all = EMPTY.men(6, 1, 2).flock(8, 3, 4).minutes(5).kept();
        edges.becomes("to all, from no men", 8, all.then(x -> {
            for (int m = 0; m < 6; m++) {
                x.goesHome();
            }
            x.minutes(1);
        }), x -> x.undo(), all);
    }

    private static void undoRefused() {
        edges.sentence(38, "NONE: nothing is kept.");
        edges.refused("at first", Due.NONE, EMPTY, x -> x.undo());
        edges.refused("with some there", Due.NONE, EMPTY.men(6, 1, 2).flock(8, 3, 4).minutes(7), x -> x.undo());
        edges.refused("torn", Due.NONE, BUSY.then(x -> x.tear()), x -> x.undo());
    }

    private static void tear() {
        edges.sentence(39, "Nothing is kept: 1 if something was, else 0.");
        edges.tells("at first", 0, EMPTY, x -> x.tear());
        edges.tells("torn already", 0, BUSY.then(x -> x.tear()), x -> x.tear());
        edges.does("an image of nobody", 1, EMPTY.kept(), x -> x.tear(), "kept " + Due.NONE, "kept minute gone",
            "kept last gone", "kept turn gone", "kept men gone", "kept sheep gone", "torn 0");
        edges.becomes("two images", 1, EMPTY.sheep(0, 1).kept().sheep(0, 2).kept(), x -> x.tear(),
            EMPTY.sheep(0, 1).sheep(0, 2));
        edges.becomes("behind undo()", 1, EMPTY.sheep(0, 1).kept().minutes(1).then(x -> x.undo()), x -> x.tear(),
            EMPTY.sheep(0, 1));
        edges.does("an image behind it", 1, EMPTY.kept().then(x -> x.tear()), x -> x.image(), "kept 0",
            "kept minute 0", "kept last -1", "kept turn -1", "kept men 0", "kept sheep 0", "torn 1");
    }

    private static void counts(String when, Scene scene, int... wants) {
        for (int what = 0; what < wants.length; what++) {
            int asked = what;
            edges.tells("count(" + what + ") " + when, wants[what], scene, x -> x.count(asked));
        }
    }

    private static void count() {
        Scene most = EMPTY;
        for (int s = 0; s < 8; s++) {
            most = most.sheep(0, 9, 9999);
        }
        edges.sentence(40, "0 SHEEP, 1 MEN, 2 bytes of THE TAPE, 3 SEEN of all together.");
        counts("of nobody", EMPTY, 0, 0, 0, 0);
        counts("of three and three", BUSY, 3, 3, 15, 4 + 8 + 9001);
        counts("at the most", most.men(6, 0, 0).tape("?".repeat(120)), 8, 6, 120, 79992);
        edges.sentence(40, "BEYOND: another what.");
        edges.refusedOutside("count", 0, 3, EMPTY, (x, v) -> x.count(v));
        edges.refusedOutside("count", 0, 3, BUSY, (x, v) -> x.count(v));
        edges.refusedOutside("count", 0, 3, FULL, (x, v) -> x.count(v));
    }

    /** One BEYOND, two FULL, three KIND, four NONE, six MISSING, seven SIZE; STATE can't be met in so few calls. */
    private static Scene told() {
        return EMPTY.men(6, 0, 0).sheep(0, 9).then(x -> {
            x.man(8);
            for (int i = 0; i < 2; i++) {
                x.man(0);
            }
            for (int i = 0; i < 3; i++) {
                x.as(0, 1);
            }
            for (int i = 0; i < 4; i++) {
                x.undo();
            }
            for (int i = 0; i < 6; i++) {
                x.lays(0);
            }
            for (int i = 0; i < 7; i++) {
                x.sheet(0, 0, -1);
            }
        });
    }

    private static void statusTold() {
        edges.sentence(41, "which -1: all, 0 to 6: BEYOND to SIZE.");
        int[] many = {23, 1, 2, 3, 4, 0, 6, 7};
        for (int which = -1; which < 7; which++) {
            int asked = which;
            edges.tells("status(" + which + ") at first", 0, EMPTY, x -> x.status(asked));
            edges.tells("status(" + which + ")", many[which + 1], told(), x -> x.status(asked));
        }
        edges.tells("answers that are not findings", 0, EMPTY.tape("?").then(x -> {
            x.fell();
            x.now(1);
            x.now(2);
            x.tear();
            x.sheet(0, 64, 1);
            x.write(0, 0, Due.BEYOND);
            x.write(0, 0, 0);
        }), x -> x.status(-1));
    }

    private static void statusKept() {
        edges.sentence(41, "(undo() takes none back)");
        edges.tells("undo()", 23, told().kept().then(x -> x.undo()), x -> x.status(-1));
        edges.tells("undo() to before", 1, EMPTY.kept().then(x -> {
            x.man(8);
            x.undo();
        }), x -> x.status(0));
        edges.tells("undo() that is refused", 1, EMPTY.then(x -> x.undo()), x -> x.status(3));
    }

    private static void statusRefused() {
        edges.sentence(41, "BEYOND (counted from then on): another one.");
        edges.refusedOutside("status", -1, 6, EMPTY, (x, v) -> x.status(v));
        edges.refusedOutside("status", -1, 6, BUSY, (x, v) -> x.status(v));
        edges.tells("counted from then on", 2, EMPTY.then(x -> {
            x.status(7);
            x.status(-2);
        }), x -> x.status(0));
    }

    private static void findings() {
        edges.sentence(Edges.TERMS, "-1000000001 BEYOND, -1000000002 FULL, -1000000003 KIND, -1000000004 NONE,");
        edges.refused("BEYOND", -1000000001, BUSY, x -> x.man(8));
        edges.refused("FULL", -1000000002, FULL, x -> x.man(0));
        edges.refused("KIND", -1000000003, BUSY, x -> x.as(0, 2));
        edges.refused("NONE", -1000000004, EMPTY, x -> x.undo());
        edges.sentence(Edges.TERMS, "-1000000005 STATE, -1000000006 MISSING, -1000000007 SIZE (in longs, too).");
        edges.refused("STATE", -1000000005, EMPTY.then(x -> {
            for (int i = 0; i < 999; i++) {
                x.minutes(100);
            }
        }), x -> x.minutes(100));
        edges.refused("MISSING", -1000000006, BUSY, x -> x.lays(3));
        edges.refused("SIZE", -1000000007, BUSY, x -> x.sheet(0, 8, -1));
        edges.refused("MISSING in longs", -1000000006, BUSY, x -> x.write(3, 0, 0));
        edges.refused("BEYOND in longs", -1000000001, BUSY, x -> x.write(4, 0, 0));
    }
}
