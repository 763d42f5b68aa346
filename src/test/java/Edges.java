import java.io.IOException;
import java.io.UncheckedIOException;
import java.nio.file.Files;
import java.nio.file.Path;
import java.util.Map;
import java.util.Set;
import java.util.TreeMap;
import java.util.TreeSet;
import java.util.regex.Matcher;
import java.util.regex.Pattern;

/**
 * Boundary cases, sentence by sentence of the document: each call is made on an object whose twin is left alone; then
 * both are looked at, and they are to differ in just the rows that the call is said to change.
 */
final class Edges {
    static final int TERMS = 0;

    private static final Path DOCUMENT = Path.of("../shared/DOC.md");
    private static final String[] FINDINGS = {"BEYOND", "FULL", "KIND", "NONE", "STATE", "MISSING", "SIZE"};
    /** A finding that a promise asks for: a sentence begins with it. */
    private static final Pattern ASKED =
        Pattern.compile("(?:^|[.:] )(BEYOND|FULL|KIND|NONE|STATE|MISSING|SIZE)(?=[.:]| \\()");

    interface Call {
        long on(FlockCounts x);
    }

    interface CallWith {
        long on(FlockCounts x, int v);
    }

    private final Due due;
    private final int firstPromise;
    private final int lastPromise;
    private final String document;
    private final Map<Integer, Set<String>> met = new TreeMap<>();
    private int promise;
    private String sentence = "";

    Edges(String test, int firstPromise, int lastPromise) {
        due = new Due(test);
        this.firstPromise = firstPromise;
        this.lastPromise = lastPromise;
        try {
            document = Files.readString(DOCUMENT);
        } catch (IOException e) {
            throw new UncheckedIOException(e);
        }
    }

    /** The sentence of a promise, or of the TERMS, that the calls behind this are about: it must stand there. */
    void sentence(int ofPromise, String words) {
        promise = ofPromise;
        sentence = words;
        met.computeIfAbsent(promise, p -> new TreeSet<>());
        due.is("promise " + promise + " says \"" + words + "\"", section(promise).contains(words) ? 1 : 0, 1);
    }

    private String section(int of) {
        String head = of == TERMS ? "## Terms" : "## Promise " + of + ":";
        int from = document.indexOf(head);
        int to = from < 0 ? -1 : document.indexOf("\n## ", from);
        return to < 0 ? "" : document.substring(from, to);
    }

    /** The call answers a finding: that leaves nothing behind but one more of it in status(). */
    void refused(String call, int finding, Scene scene, Call made) {
        int which = Due.BEYOND - finding;
        FlockCounts x = scene.make();
        int all = x.status(-1);
        int such = x.status(which);
        met.get(promise).add(FINDINGS[which]);
        does(call, finding, scene, made, "status -1 " + (all + 1), "status " + which + " " + (such + 1));
    }

    /** BEYOND at the two numbers next to a range, and at the farthest ones. */
    void refusedOutside(String call, int least, int greatest, Scene scene, CallWith made) {
        for (int v : new int[] {Integer.MIN_VALUE, least - 1, greatest + 1, Integer.MAX_VALUE}) {
            refused(call + " with " + v, Due.BEYOND, scene, x -> made.on(x, v));
        }
    }

    /** The call answers and changes nothing at all. */
    void tells(String call, long want, Scene scene, Call made) {
        does(call, want, scene, made);
    }

    /** The call answers and changes just these rows, each told as Look names it and as it is then. */
    void does(String call, long want, Scene scene, Call made, String... changes) {
        becomes(call, want, scene, made, scene, changes);
    }

    /** As does(), but against a twin of another scene. */
    void becomes(String call, long want, Scene scene, Call made, Scene other, String... changes) {
        FlockCounts x = scene.make();
        FlockCounts twin = other.make();
        String name = promise + ", \"" + sentence + "\", " + call;
        due.is(name, made.on(x), want);
        due.same(name + " changes", Look.changes(Look.at(twin), Look.at(x)), new TreeSet<>(Set.of(changes)));
    }

    /** All that can be seen of an object is just so. */
    void looks(String name, FlockCounts x, Map<String, Long> rows) {
        due.same(promise + ", \"" + sentence + "\", " + name, new TreeMap<>(Look.at(x)), new TreeMap<>(rows));
    }

    /** A finding that a promise asks for, but that no call can ever be told. */
    void cannotBeMet(int ofPromise, int finding) {
        met.get(ofPromise).add(FINDINGS[Due.BEYOND - finding]);
    }

    /** Each promise of this test has been asked about, and each finding that it names has been told. */
    void end() {
        for (int p = firstPromise; p <= lastPromise; p++) {
            due.is("promise " + p + " has sentences here", met.containsKey(p) ? 1 : 0, 1);
            Set<String> asked = new TreeSet<>();
            Matcher m = ASKED.matcher(section(p));
            while (m.find()) {
                asked.add(m.group(1));
            }
            due.same("findings of promise " + p, met.getOrDefault(p, Set.of()), asked);
        }
        due.end();
    }
}
