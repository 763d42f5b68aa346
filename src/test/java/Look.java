import java.util.LinkedHashMap;
import java.util.Map;
import java.util.Set;
import java.util.TreeSet;

/** All that can be seen of an object, as named rows. To look uses the object up: it is looked at once, last. */
final class Look {
    /** Tells 8, 16 and 64 bits from one another by what is left of it. */
    private static final long MARK = 1L << 40 | 1L << 12;

    private final FlockCounts x;
    private final Map<String, Long> rows = new LinkedHashMap<>();

    private Look(FlockCounts x) {
        this.x = x;
    }

    static Map<String, Long> at(FlockCounts x) {
        Look look = new Look(x);
        // the first, as looking itself is told findings
        for (int which = -1; which < 7; which++) {
            look.row("status " + which, x.status(which));
        }
        look.fold("");
        look.row("tape", x.count(2));
        look.sheets();
        look.text();
        look.kept();
        return look.rows;
    }

    /** The rows of one look that aren't in another, as "name value", or "name gone". */
    static Set<String> changes(Map<String, Long> was, Map<String, Long> is) {
        Set<String> changes = new TreeSet<>();
        for (Map.Entry<String, Long> row : is.entrySet()) {
            if (!row.getValue().equals(was.get(row.getKey()))) {
                changes.add(row.getKey() + " " + row.getValue());
            }
        }
        for (String name : was.keySet()) {
            if (!is.containsKey(name)) {
                changes.add(name + " gone");
            }
        }
        return changes;
    }

    private void row(String name, long value) {
        rows.put(name, value);
    }

    private void fold(String ahead) {
        row(ahead + "minute", x.now(0));
        row(ahead + "last", x.now(1));
        row(ahead + "turn", x.now(2));
        row(ahead + "men", x.count(1));
        men(ahead);
        row(ahead + "sheep", x.count(0));
        String[] of = {"kind", "wants", "seen"};
        for (int s = 0; s < x.count(0); s++) {
            for (int what = 0; what < of.length; what++) {
                row(ahead + "sheep " + s + " " + of[what], x.of(s, what));
            }
        }
    }

    private void men(String ahead) {
        for (int m = 0; m < x.count(1); m++) {
            row(ahead + "man " + m + " guise", x.manOf(m, 0));
            row(ahead + "man " + m + " wear", x.manOf(m, 1));
        }
    }

    private void sheets() {
        for (int s = 0; s < 4; s++) {
            numbers("sheet " + s, s);
        }
        for (int s = 0; s < 4; s++) {
            if (rows.get("sheet " + s) == 0) {
                row("sheet " + s + " bits", bitsOfEmpty(s));
            }
        }
    }

    private void numbers(String name, int s) {
        long was = x.write(s, 0, MARK);
        if (was == Due.MISSING) {
            row(name, was);
            return;
        }
        int i = 0;
        for (; i < 50 && was != Due.BEYOND; i++) {
            row(name + " number " + i, was);
            was = x.write(s, i + 1, MARK);
        }
        row(name, i);
        if (i > 0) {
            long left = x.write(s, 0, MARK);
            row(name + " bits", left == MARK ? 64 : left == 0 ? 8 : 16);
        }
    }

    /** By another sheet that isn't needed any more: copy() tells whether both are of as many bits. */
    private long bitsOfEmpty(int s) {
        for (int other = 0; other < 4; other++) {
            if (other != s && rows.get("sheet " + other) != 0) {
                for (int bits : new int[] {8, 16, 64}) {
                    x.sheet(other, bits, 0);
                    if (x.copy(s, 0, other, 0, 0) == 0) {
                        return bits;
                    }
                }
            }
        }
        return -1;
    }

    /** What THE TAPE comes to where there are no men: the bytes themselves can't be seen. */
    private void text() {
        while (x.count(1) > 0) {
            x.goesHome();
        }
        row("text", x.fell());
        men("text ");
    }

    private void kept() {
        long sheep = x.undo();
        row("kept", sheep);
        if (sheep >= 0) {
            fold("kept ");
        }
        row("torn", x.tear());
    }
}
