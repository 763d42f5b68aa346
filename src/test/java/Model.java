import java.util.ArrayList;
import java.util.Comparator;
import java.util.List;
import java.util.function.Predicate;
import java.util.function.ToIntFunction;
import java.util.regex.Matcher;
import java.util.regex.Pattern;
import java.util.stream.IntStream;
import java.util.stream.Stream;

/**
 * The document told a second time, slowly and in another manner: every minute makes a new state, kinds lean on the
 * kinds above them, the text is cut by a pattern. ModelTest holds the class against it.
 */
final class Model {
    private static final Pattern TOKEN = Pattern.compile("[a-z]+|[0-9]+|;|[^ ]", Pattern.DOTALL);
    private static final List<String> NAMES = List.of("sheep", "ewe", "lamb", "wether", "waker", "tup");

    /** A finding on its way out of a call. */
    private static final class Finding extends RuntimeException {
        private static final long serialVersionUID = 1;
        final int number;

        Finding(int number) {
            super(null, null, false, false);
            this.number = number;
        }
    }

    record Man(int guise, int wear) {
    }

    record Beast(int kind, int wants, int seen) {
        boolean sleeps() {
            return wants == 0;
        }
    }

    record Token(String text, int place) {
        boolean isNumber() {
            return Character.isDigit(text.charAt(0));
        }
    }

    record State(int minute, int last, int turn, List<Man> men, List<Beast> flock) {
        State next() {
            List<Man> menThen = new ArrayList<>(men);
            List<Beast> flockThen = new ArrayList<>();
            boolean passed = !men.isEmpty() && men.get(turn).wear() < 99;
            int lastThen = -1;
            if (passed) {
                Man man = men.get(turn);
                int tired = 0;
                for (Beast b : flock) {
                    if (b.sleeps()) {
                        flockThen.add(b);
                        continue;
                    }
                    int left = b.wants() - countsFor(b.kind(), man.guise(), last, minute);
                    flockThen.add(new Beast(b.kind(), left < 0 ? 0 : left, b.seen() == 9999 ? 9999 : b.seen() + 1));
                    tired += tires(b.kind());
                }
                menThen.set(turn, new Man(man.guise(), man.wear() + tired > 99 ? 99 : man.wear() + tired));
                lastThen = man.guise();
            } else {
                for (Beast b : flock) {
                    int more = b.wants() + wakes(b.kind());
                    flockThen.add(new Beast(b.kind(), more > 99 ? 99 : more, b.seen()));
                }
            }
            int turnThen = men.isEmpty() ? turn : (turn + 1) % men.size();
            return new State(minute + 1, lastThen, turnThen, menThen, flockThen);
        }

        State after(int n) {
            State s = this;
            for (int i = 0; i < n; i++) {
                s = s.next();
            }
            return s;
        }

        /** The first minute within a limit at which something is so; -1 if there is none. */
        int when(Predicate<State> so, int limit) {
            State s = this;
            for (int i = 0; i <= limit; i++) {
                if (so.test(s)) {
                    return i;
                }
                s = s.next();
            }
            return -1;
        }

        boolean isQuiet() {
            return flock.stream().allMatch(Beast::sleeps);
        }

        int wantsOfAll() {
            return flock.stream().mapToInt(Beast::wants).sum();
        }

        State with(int m, Man man) {
            List<Man> then = new ArrayList<>(men);
            then.set(m, man);
            return new State(minute, last, turn, then, flock);
        }

        State with(int s, Beast b) {
            List<Beast> then = new ArrayList<>(flock);
            then.set(s, b);
            return new State(minute, last, turn, men, then);
        }

        State withTurn(int t) {
            return new State(minute, last, t, men, flock);
        }

        State and(Man man) {
            return new State(minute, last, turn, Stream.concat(men.stream(), Stream.of(man)).toList(), flock);
        }

        State and(Beast b) {
            return new State(minute, last, turn, men, Stream.concat(flock.stream(), Stream.of(b)).toList());
        }
    }

    private State state = new State(0, -1, 0, List.of(), List.of());
    private State kept;
    private String tape = "";
    private final long[][] sheets = new long[4][];
    private final int[] widths = new int[4];
    private final List<Integer> findings = new ArrayList<>();

    // ---- kinds

    static int unlike(int g, int h) {
        if (g < 0 || h < 0) {
            return 3;
        }
        int u = 0;
        for (int part = 1; part <= 4; part *= 2) {
            u += g / part % 2 != h / part % 2 ? 1 : 0;
        }
        return u;
    }

    static int countsFor(int kind, int g, int last, int minute) {
        int u = unlike(g, last);
        return switch (NAMES.get(kind)) {
            case "sheep" -> 1 + u;
            case "ewe" -> countsFor(0, g, last, minute) + g / 2 % 2;
            case "lamb" -> 2 * countsFor(0, g, last, minute);
            case "wether" -> u == 0 ? 0 : countsFor(0, g, last, minute);
            case "waker" -> Math.max(0, countsFor(1, g, last, minute) - minute % 2);
            default -> countsFor(3, g, last, minute) + 2 * (g % 2);
        };
    }

    static int wakes(int kind) {
        return switch (NAMES.get(kind)) {
            case "ewe" -> wakes(0) + 1;
            case "lamb" -> 2;
            case "wether" -> wakes(0);
            case "waker" -> 2 * wakes(1);
            case "tup" -> wakes(3);
            default -> 0;
        };
    }

    static int tires(int kind) {
        return switch (NAMES.get(kind)) {
            case "ewe", "wether" -> tires(0);
            case "lamb" -> 0;
            case "waker" -> tires(1) + 1;
            case "tup" -> tires(3);
            default -> 1;
        };
    }

    static boolean isUnder(int kind, int other) {
        return kind == other || other == 0 || kind == 4 && other == 1 || kind == 5 && other == 3;
    }

    // ---- calls

    /** Any call by its name and arguments, as the class would answer it. */
    long call(String name, long[] a) {
        try {
            return answer(name, IntStream.range(0, a.length).map(i -> (int) a[i]).toArray(), a);
        } catch (Finding f) {
            findings.add(f.number);
            return f.number;
        }
    }

    private static void refuse(boolean when, int finding) {
        if (when) {
            throw new Finding(finding);
        }
    }

    private static void within(int v, int least, int greatest) {
        refuse(v < least || v > greatest, Due.BEYOND);
    }

    private void isMan(int m) {
        within(m, 0, state.men().size() - 1);
    }

    private void isSheep(int s) {
        within(s, 0, state.flock().size() - 1);
    }

    private void isThere(int s) {
        within(s, 0, 3);
        refuse(sheets[s] == null, Due.MISSING);
    }

    private long answer(String name, int[] a, long[] wide) {
        switch (name) {
            case "man", "manOf", "dress", "first", "goesHome":
                return men(name, a);
            case "sheep", "of", "set", "turn", "as", "counts":
                return flock(name, a);
            case "minutes", "now", "on", "worn", "sleeps", "quiet", "bare":
                return night(name, a);
            case "guise", "guises", "swap", "spare", "kind", "most", "begin", "last":
                return best(name, a);
            case "feed", "wipe", "fell":
                return text(name, a);
            case "sheet", "write", "copy", "lays", "book", "read":
                return paper(name, a, wide);
            default:
                return images(name, a);
        }
    }

    private int men(String name, int[] a) {
        switch (name) {
            case "man": {
                within(a[0], 0, 7);
                refuse(state.men().size() == 6, Due.FULL);
                state = state.and(new Man(a[0], 0));
                return state.men().size() - 1;
            }
            case "manOf": {
                isMan(a[0]);
                within(a[1], 0, 1);
                Man man = state.men().get(a[0]);
                return a[1] == 0 ? man.guise() : man.wear();
            }
            case "dress": {
                isMan(a[0]);
                within(a[1], 0, 1);
                within(a[2], 0, a[1] == 0 ? 7 : 99);
                Man man = state.men().get(a[0]);
                state = state.with(a[0], a[1] == 0 ? new Man(a[2], man.wear()) : new Man(man.guise(), a[2]));
                return a[1] == 0 ? man.guise() : man.wear();
            }
            case "first": {
                isMan(a[0]);
                int was = state.turn();
                state = state.withTurn(a[0]);
                return was;
            }
            default: {
                int left = state.men().size() - 1;
                refuse(left < 0, Due.NONE);
                state = new State(state.minute(), state.last(), state.turn() == left ? 0 : state.turn(),
                    state.men().subList(0, left), state.flock());
                return left;
            }
        }
    }

    private int flock(String name, int[] a) {
        if (name.equals("sheep")) {
            within(a[0], 0, 5);
            refuse(state.flock().size() == 8, Due.FULL);
            state = state.and(new Beast(a[0], 20, 0));
            return state.flock().size() - 1;
        }
        isSheep(a[0]);
        Beast b = state.flock().get(a[0]);
        switch (name) {
            case "of":
                within(a[1], 0, 5);
                return new int[] {b.kind(), b.wants(), b.seen(), b.sleeps() ? 1 : 0, wakes(b.kind()),
                    tires(b.kind())}[a[1]];
            case "set":
                within(a[1], 1, 2);
                within(a[2], 0, a[1] == 1 ? 99 : 9999);
                state = state.with(a[0],
                    a[1] == 1 ? new Beast(b.kind(), a[2], b.seen()) : new Beast(b.kind(), b.wants(), a[2]));
                return a[1] == 1 ? b.wants() : b.seen();
            case "turn":
                within(a[1], 0, 5);
                state = state.with(a[0], new Beast(a[1], b.wants(), b.seen()));
                return b.kind();
            case "as":
                within(a[1], 0, 5);
                refuse(!isUnder(b.kind(), a[1]), Due.KIND);
                return b.wants();
            default:
                within(a[1], 0, 7);
                return countsFor(b.kind(), a[1], state.last(), state.minute());
        }
    }

    private static int set(int size, Predicate<Integer> isIn) {
        int set = 0;
        for (int i = 0; i < size; i++) {
            set += isIn.test(i) ? (int) Math.pow(2, i) : 0;
        }
        return set;
    }

    private int sleepers() {
        return set(state.flock().size(), s -> state.flock().get(s).sleeps());
    }

    private static int found(int minutes) {
        refuse(minutes < 0, Due.NONE);
        return minutes;
    }

    private int night(String name, int[] a) {
        switch (name) {
            case "minutes":
                within(a[0], 1, 100);
                refuse(state.minute() + a[0] > 99999, Due.STATE);
                state = state.after(a[0]);
                return sleepers();
            case "now":
                within(a[0], 0, 6);
                return new int[] {state.minute(), state.last(), state.men().isEmpty() ? -1 : state.turn(), sleepers(),
                    state.wantsOfAll(), state.men().stream().mapToInt(Man::wear).sum(),
                    set(state.men().size(), m -> state.men().get(m).wear() != 99)}[a[0]];
            case "on":
                isSheep(a[0]);
                within(a[1], 0, 100);
                within(a[2], 0, 1);
                Beast b = state.after(a[1]).flock().get(a[0]);
                return a[2] == 0 ? b.wants() : b.seen();
            case "worn":
                isMan(a[0]);
                within(a[1], 0, 100);
                return state.after(a[1]).men().get(a[0]).wear();
            case "sleeps":
                isSheep(a[0]);
                return found(state.when(s -> s.flock().get(a[0]).sleeps(), 200));
            case "quiet":
                return found(state.when(State::isQuiet, 200));
            default:
                isMan(a[0]);
                return found(state.when(s -> s.men().get(a[0]).wear() == 99, 200));
        }
    }

    /** The first of some numbers for which a cost is least; a cost below 0 is none at all. */
    private static int least(Stream<Integer> of, ToIntFunction<Integer> cost) {
        List<int[]> all = of.map(i -> new int[] {i, cost.applyAsInt(i)}).filter(p -> p[1] >= 0).toList();
        refuse(all.isEmpty(), Due.NONE);
        return all.stream().min(Comparator.comparingInt((int[] p) -> p[1]).thenComparingInt(p -> p[0])).get()[0];
    }

    private static Stream<Integer> upTo(int end) {
        return IntStream.range(0, end).boxed();
    }

    private State dressed(int m, int g) {
        return state.with(m, new Man(g, state.men().get(m).wear()));
    }

    private State swapped(int pair) {
        Man one = state.men().get(pair / 10);
        Man other = state.men().get(pair % 10);
        return state.with(pair / 10, other).with(pair % 10, one);
    }

    private int wearOfOthers(int out, int n) {
        State s = state;
        for (int m = 0; m < s.men().size(); m++) {
            if ((out >> m & 1) == 1) {
                s = s.with(m, new Man(s.men().get(m).guise(), 99));
            }
        }
        State then = s.after(n);
        return upTo(then.men().size()).filter(m -> (out >> m & 1) == 0).mapToInt(m -> then.men().get(m).wear()).sum();
    }

    private int best(String name, int[] a) {
        int men = state.men().size();
        switch (name) {
            case "guise":
                isMan(a[0]);
                return least(upTo(8), g -> dressed(a[0], g).when(State::isQuiet, 100));
            case "guises":
                isMan(a[0]);
                isMan(a[1]);
                refuse(a[0] == a[1], Due.BEYOND);
                return least(upTo(64), p -> dressed(a[0], p / 8)
                    .with(a[1], new Man(p % 8, state.men().get(a[1]).wear())).when(State::isQuiet, 60));
            case "swap":
                int asItIs = state.when(State::isQuiet, 1000);
                return least(upTo(60).filter(p -> p / 10 < p % 10 && p % 10 < men), p -> {
                    int then = swapped(p).when(State::isQuiet, 100);
                    return asItIs < 0 || then < asItIs ? then : -1;
                });
            case "spare":
                within(a[0], 1, 40);
                within(a[1], 0, 594);
                return least(upTo((int) Math.pow(2, men)), out -> wearOfOthers(out, a[0]) <= a[1]
                    ? (int) Integer.toBinaryString(out).chars().filter(c -> c == '1').count() : -1);
            case "kind":
                isSheep(a[0]);
                Beast b = state.flock().get(a[0]);
                return least(upTo(6), k -> state.with(a[0], new Beast(k, b.wants(), b.seen()))
                    .when(s -> s.flock().get(a[0]).sleeps(), 100));
            case "most":
                isSheep(a[0]);
                within(a[1], 1, 100);
                Beast one = state.flock().get(a[0]);
                return least(upTo(100), w -> state.with(a[0], new Beast(one.kind(), w, one.seen())).after(a[1])
                    .flock().get(a[0]).sleeps() ? 99 - w : -1);
            case "begin":
                within(a[0], 1, 100);
                return least(upTo(men), m -> state.withTurn(m).after(a[0]).wantsOfAll());
            default:
                return least(upTo(state.flock().size()), s -> {
                    int then = state.when(t -> t.flock().get(s).sleeps(), 200);
                    return then < 0 ? 0 : 201 - then;
                });
        }
    }

    private int text(String name, int[] a) {
        if (name.equals("feed")) {
            within(a[1], 1, 4);
            refuse(tape.length() + a[1] > 120, Due.FULL);
            String all = "" + (char) (a[0] >>> 24) + (char) (a[0] >>> 16 & 255) + (char) (a[0] >>> 8 & 255)
                + (char) (a[0] & 255);
            tape += all.substring(4 - a[1]);
            return tape.length();
        }
        String was = tape;
        tape = "";
        return name.equals("wipe") ? was.length() : fell(was);
    }

    private int fell(String text) {
        List<Token> tokens = new ArrayList<>();
        Matcher m = TOKEN.matcher(text);
        while (m.find()) {
            tokens.add(new Token(m.group(), m.start()));
        }
        tokens.add(new Token("$", text.length()));
        State was = state;
        int fault = items(tokens);
        if (fault >= 0) {
            state = was;
            return -1 - tokens.get(fault).place();
        }
        return 1 + (int) tokens.stream().filter(t -> t.text().equals(";")).count();
    }

    /** Which token is the fault; -1 if none is. */
    private int items(List<Token> tokens) {
        int at = 0;
        while (true) {
            String head = tokens.get(at).text();
            boolean isMan = head.equals("man") && state.men().size() < 6;
            boolean isBeast = NAMES.contains(head) && state.flock().size() < 8;
            if (!isMan && !isBeast) {
                return at;
            }
            at++;
            int guise = 0;
            for (String part : isMan ? List.of("dog", "stick", "limp") : List.<String>of()) {
                if (tokens.get(at).text().equals(part)) {
                    guise += part.equals("dog") ? 1 : part.equals("stick") ? 2 : 4;
                    at++;
                }
            }
            int number = isMan ? 0 : 20;
            if (tokens.get(at).text().equals(isMan ? "worn" : "wants")) {
                at++;
                Token t = tokens.get(at);
                if (!t.isNumber() || new java.math.BigInteger(t.text()).bitLength() > 7
                    || Integer.parseInt(t.text()) > 99) {
                    return at;
                }
                number = Integer.parseInt(t.text());
                at++;
            }
            state = isMan ? state.and(new Man(guise, number)) : state.and(new Beast(NAMES.indexOf(head), number, 0));
            if (at == tokens.size() - 1) {
                return -1;
            }
            if (!tokens.get(at).text().equals(";")) {
                return at;
            }
            at++;
        }
    }

    private static long cut(long v, int bits) {
        return bits == 64 ? v : v << 64 - bits >> 64 - bits;
    }

    private long paper(String name, int[] a, long[] wide) {
        switch (name) {
            case "sheet": {
                within(a[0], 0, 3);
                refuse(!List.of(0, 8, 16, 64).contains(a[1]), Due.BEYOND);
                refuse(a[2] < 0, Due.SIZE);
                refuse(a[2] > 40, Due.BEYOND);
                widths[a[0]] = a[1];
                sheets[a[0]] = a[1] == 0 ? null : new long[a[2]];
                return a[1] == 0 ? 0 : a[2];
            }
            case "write": {
                isThere(a[0]);
                within(a[1], 0, sheets[a[0]].length - 1);
                long was = sheets[a[0]][a[1]];
                sheets[a[0]][a[1]] = cut(wide[2], widths[a[0]]);
                return was;
            }
            case "copy": {
                within(a[0], 0, 3);
                within(a[2], 0, 3);
                isThere(a[0]);
                isThere(a[2]);
                refuse(widths[a[0]] != widths[a[2]], Due.KIND);
                refuse(a[1] < 0 || a[3] < 0 || a[4] < 0, Due.BEYOND);
                refuse(wide[1] + wide[4] > sheets[a[0]].length, Due.BEYOND);
                refuse(wide[3] + wide[4] > sheets[a[2]].length, Due.BEYOND);
                long[] were = sheets[a[0]].clone();
                for (int i = 0; i < a[4]; i++) {
                    sheets[a[2]][a[3] + i] = were[a[1] + i];
                }
                return a[4];
            }
            case "lays": {
                isThere(a[0]);
                int came = 0;
                for (int s = 0; s < state.flock().size() && s < sheets[a[0]].length; s++) {
                    long v = sheets[a[0]][s];
                    if (v >= 0 && v <= 99) {
                        Beast b = state.flock().get(s);
                        state = state.with(s, new Beast(b.kind(), (int) v, b.seen()));
                        came++;
                    }
                }
                return came;
            }
            case "book": {
                isThere(a[0]);
                isSheep(a[1]);
                for (int i = 0; i < sheets[a[0]].length; i++) {
                    sheets[a[0]][i] = state.after(i).flock().get(a[1]).wants();
                }
                return sheets[a[0]].length;
            }
            default: {
                isThere(a[0]);
                isSheep(a[1]);
                return upTo(600).filter(p -> isJustSo(sheets[a[0]], a[1], p)).count();
            }
        }
    }

    private boolean isJustSo(long[] numbers, int sheep, int pair) {
        State s = state.with(sheep, new Beast(pair / 100, pair % 100, state.flock().get(sheep).seen()));
        for (long number : numbers) {
            if (s.flock().get(sheep).seen() != number) {
                return false;
            }
            s = s.next();
        }
        return true;
    }

    private int images(String name, int[] a) {
        switch (name) {
            case "image":
                kept = state;
                return 1;
            case "undo":
                refuse(kept == null, Due.NONE);
                state = kept;
                return state.flock().size();
            case "tear":
                int was = kept == null ? 0 : 1;
                kept = null;
                return was;
            case "count":
                within(a[0], 0, 3);
                return new int[] {state.flock().size(), state.men().size(), tape.length(),
                    state.flock().stream().mapToInt(Beast::seen).sum()}[a[0]];
            default:
                within(a[0], -1, 6);
                return (int) findings.stream().filter(f -> a[0] == -1 || f == -1000000001 - a[0]).count();
        }
    }
}
