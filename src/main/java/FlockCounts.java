/** A fell on which the sheep count the shepherds: ../shared/DOC.md says what each call does. */
public final class FlockCounts {
    private static final int BEYOND = -1000000001;
    private static final int FULL = -1000000002;
    private static final int KIND = -1000000003;
    private static final int NONE = -1000000004;
    private static final int STATE = -1000000005;
    private static final int MISSING = -1000000006;
    private static final int SIZE = -1000000007;
    private static final int FINDINGS = 7;

    private static final int LAST_MINUTE = 99999;
    private static final int LONGEST_PLAY = 100;
    private static final int LONGEST_WAIT = 200;
    private static final int LONGEST_PAIRING = 60;
    private static final int LONGEST_SPARING = 40;

    private final Fold fold = new Fold();
    /** Where ON is played out, so that the fold itself stays as it is; made once and used by every call. */
    private final Fold trial = new Fold();
    private final Fold kept = new Fold();
    private boolean isKept;
    private final Tape tape = new Tape();
    private final Sheet[] sheets = {new Sheet(), new Sheet(), new Sheet(), new Sheet()};
    private final int[] told = new int[FINDINGS];

    public FlockCounts() {
    }

    // ---- men

    public int man(int guise) {
        if (!isGuise(guise)) {
            return tell(BEYOND);
        }
        if (!fold.hasRoomForMan()) {
            return tell(FULL);
        }
        return fold.addMan(guise, 0);
    }

    public int manOf(int man, int what) {
        if (!fold.hasMan(man) || what < 0 || what > 1) {
            return tell(BEYOND);
        }
        return what == 0 ? fold.guises[man] : fold.wears[man];
    }

    public int dress(int man, int what, int v) {
        if (!fold.hasMan(man)) {
            return tell(BEYOND);
        }
        if (what == 0 && isGuise(v)) {
            int was = fold.guises[man];
            fold.guises[man] = v;
            return was;
        }
        if (what == 1 && isWithin(v, 0, Fold.MOST_WEAR)) {
            int was = fold.wears[man];
            fold.wears[man] = v;
            return was;
        }
        return tell(BEYOND);
    }

    public int first(int man) {
        if (!fold.hasMan(man)) {
            return tell(BEYOND);
        }
        int was = fold.turn;
        fold.turn = man;
        return was;
    }

    public int goesHome() {
        if (fold.manCount == 0) {
            return tell(NONE);
        }
        fold.dropLastMan();
        return fold.manCount;
    }

    // ---- sheep

    public int sheep(int kind) {
        if (!Kinds.isKind(kind)) {
            return tell(BEYOND);
        }
        if (!fold.hasRoomForSheep()) {
            return tell(FULL);
        }
        return fold.addSheep(kind, Fold.FIRST_WANTS);
    }

    public int of(int sheep, int what) {
        if (!fold.hasSheep(sheep)) {
            return tell(BEYOND);
        }
        switch (what) {
            case 0:
                return fold.kinds[sheep];
            case 1:
                return fold.wants[sheep];
            case 2:
                return fold.seen[sheep];
            case 3:
                return fold.isAsleep(sheep) ? 1 : 0;
            case 4:
                return Kinds.wakesBy(fold.kinds[sheep]);
            case 5:
                return Kinds.tiresBy(fold.kinds[sheep]);
            default:
                return tell(BEYOND);
        }
    }

    public int set(int sheep, int what, int v) {
        if (!fold.hasSheep(sheep)) {
            return tell(BEYOND);
        }
        if (what == 1 && isWithin(v, 0, Fold.MOST_WANTS)) {
            int was = fold.wants[sheep];
            fold.wants[sheep] = v;
            return was;
        }
        if (what == 2 && isWithin(v, 0, Fold.MOST_SEEN)) {
            int was = fold.seen[sheep];
            fold.seen[sheep] = v;
            return was;
        }
        return tell(BEYOND);
    }

    public int turn(int sheep, int kind) {
        if (!fold.hasSheep(sheep) || !Kinds.isKind(kind)) {
            return tell(BEYOND);
        }
        int was = fold.kinds[sheep];
        fold.kinds[sheep] = kind;
        return was;
    }

    public int as(int sheep, int kind) {
        if (!fold.hasSheep(sheep) || !Kinds.isKind(kind)) {
            return tell(BEYOND);
        }
        if (!Kinds.isOf(fold.kinds[sheep], kind)) {
            return tell(KIND);
        }
        return fold.wants[sheep];
    }

    public int counts(int sheep, int guise) {
        if (!fold.hasSheep(sheep) || !isGuise(guise)) {
            return tell(BEYOND);
        }
        return Kinds.takesOff(fold.kinds[sheep], guise, Kinds.unlike(guise, fold.last), fold.minute);
    }

    // ---- minutes

    public int minutes(int n) {
        if (!isWithin(n, 1, LONGEST_PLAY)) {
            return tell(BEYOND);
        }
        if (fold.minute > LAST_MINUTE - n) {
            return tell(STATE);
        }
        fold.play(n);
        return fold.sleepers();
    }

    public int now(int what) {
        switch (what) {
            case 0:
                return fold.minute;
            case 1:
                return fold.last;
            case 2:
                return fold.manCount == 0 ? -1 : fold.turn;
            case 3:
                return fold.sleepers();
            case 4:
                return fold.wantsOfAll();
            case 5:
                return fold.wearWithout(0);
            case 6:
                return fold.passers();
            default:
                return tell(BEYOND);
        }
    }

    public int on(int sheep, int n, int what) {
        if (!fold.hasSheep(sheep) || !isWithin(n, 0, LONGEST_PLAY) || what < 0 || what > 1) {
            return tell(BEYOND);
        }
        startTrial();
        trial.play(n);
        return what == 0 ? trial.wants[sheep] : trial.seen[sheep];
    }

    public int worn(int man, int n) {
        if (!fold.hasMan(man) || !isWithin(n, 0, LONGEST_PLAY)) {
            return tell(BEYOND);
        }
        startTrial();
        trial.play(n);
        return trial.wears[man];
    }

    public int sleeps(int sheep) {
        if (!fold.hasSheep(sheep)) {
            return tell(BEYOND);
        }
        startTrial();
        return withinWait(trial.playTillAsleep(sheep, LONGEST_WAIT));
    }

    public int quiet() {
        startTrial();
        return withinWait(trial.playTillQuiet(LONGEST_WAIT));
    }

    public int bare(int man) {
        if (!fold.hasMan(man)) {
            return tell(BEYOND);
        }
        startTrial();
        return withinWait(trial.playTillBare(man, LONGEST_WAIT));
    }

    // ---- what is best

    public int guise(int man) {
        if (!fold.hasMan(man)) {
            return tell(BEYOND);
        }
        int best = NONE;
        int soonest = LONGEST_PLAY + 1;
        for (int g = 0; g < Fold.GUISES; g++) {
            startTrial();
            trial.guises[man] = g;
            int minutes = trial.playTillQuiet(soonest - 1);
            if (minutes < soonest) {
                soonest = minutes;
                best = g;
            }
        }
        return answer(best);
    }

    public int guises(int man, int other) {
        if (!fold.hasMan(man) || !fold.hasMan(other) || man == other) {
            return tell(BEYOND);
        }
        int best = NONE;
        int soonest = LONGEST_PAIRING + 1;
        for (int pair = 0; pair < Fold.GUISES * Fold.GUISES; pair++) {
            startTrial();
            trial.guises[man] = pair / Fold.GUISES;
            trial.guises[other] = pair % Fold.GUISES;
            int minutes = trial.playTillQuiet(soonest - 1);
            if (minutes < soonest) {
                soonest = minutes;
                best = pair;
            }
        }
        return answer(best);
    }

    public int swap() {
        startTrial();
        int best = NONE;
        int soonest = trial.playTillQuiet(LONGEST_PLAY);
        for (int man = 0; man < fold.manCount; man++) {
            for (int other = man + 1; other < fold.manCount; other++) {
                startTrial();
                trial.exchange(man, other);
                int minutes = trial.playTillQuiet(soonest - 1);
                if (minutes < soonest) {
                    soonest = minutes;
                    best = 10 * man + other;
                }
            }
        }
        return answer(best);
    }

    public int spare(int n, int w) {
        if (!isWithin(n, 1, LONGEST_SPARING) || !isWithin(w, 0, Fold.MOST_MEN * Fold.MOST_WEAR)) {
            return tell(BEYOND);
        }
        int best = NONE;
        int fewest = Fold.MOST_MEN + 1;
        for (int out = 0; out < 1 << fold.manCount; out++) {
            int many = Integer.bitCount(out);
            if (many < fewest && wearWhenOut(out, n) <= w) {
                fewest = many;
                best = out;
            }
        }
        return answer(best);
    }

    public int kind(int sheep) {
        if (!fold.hasSheep(sheep)) {
            return tell(BEYOND);
        }
        int best = NONE;
        int soonest = LONGEST_PLAY + 1;
        for (int k = 0; k < Kinds.MANY; k++) {
            startTrial();
            trial.kinds[sheep] = k;
            int minutes = trial.playTillAsleep(sheep, soonest - 1);
            if (minutes < soonest) {
                soonest = minutes;
                best = k;
            }
        }
        return answer(best);
    }

    public int most(int sheep, int n) {
        if (!fold.hasSheep(sheep) || !isWithin(n, 1, LONGEST_PLAY)) {
            return tell(BEYOND);
        }
        // every number is tried: to want less changes who wears out, so it need not mean to sleep sooner
        for (int wants = Fold.MOST_WANTS; wants >= 0; wants--) {
            startTrial();
            trial.wants[sheep] = wants;
            trial.play(n);
            if (trial.isAsleep(sheep)) {
                return wants;
            }
        }
        return tell(NONE);
    }

    public int begin(int n) {
        if (!isWithin(n, 1, LONGEST_PLAY)) {
            return tell(BEYOND);
        }
        int best = NONE;
        int least = Fold.MOST_SHEEP * Fold.MOST_WANTS + 1;
        for (int man = 0; man < fold.manCount; man++) {
            startTrial();
            trial.turn = man;
            trial.play(n);
            int wants = trial.wantsOfAll();
            if (wants < least) {
                least = wants;
                best = man;
            }
        }
        return answer(best);
    }

    public int last() {
        int best = NONE;
        int latest = -1;
        for (int sheep = 0; sheep < fold.sheepCount; sheep++) {
            startTrial();
            int minutes = trial.playTillAsleep(sheep, LONGEST_WAIT);
            if (minutes > latest) {
                latest = minutes;
                best = sheep;
            }
        }
        return answer(best);
    }

    // ---- the text

    public int feed(int bytes, int n) {
        if (!isWithin(n, 1, 4)) {
            return tell(BEYOND);
        }
        if (!tape.hasRoomFor(n)) {
            return tell(FULL);
        }
        for (int i = n - 1; i >= 0; i--) {
            tape.append((bytes >> (8 * i)) & 255);
        }
        return tape.length;
    }

    public int wipe() {
        int had = tape.length;
        tape.length = 0;
        return had;
    }

    public int fell() {
        // told into the trial, so that a FAULT leaves the fold as it was
        startTrial();
        int items = tape.tellInto(trial);
        if (items >= 0) {
            fold.becomes(trial);
        }
        tape.length = 0;
        return items;
    }

    // ---- sheets

    public int sheet(int s, int bits, int n) {
        if (!isSheet(s) || !Sheet.isWidth(bits) && bits != 0) {
            return tell(BEYOND);
        }
        if (n < 0) {
            return tell(SIZE);
        }
        if (n > Sheet.MOST) {
            return tell(BEYOND);
        }
        sheets[s].ruleAnew(bits, n);
        return sheets[s].length;
    }

    public long write(int s, int i, long v) {
        int finding = missingSheet(s);
        if (finding != 0) {
            return tell(finding);
        }
        if (!isWithin(i, 0, sheets[s].length - 1)) {
            return tell(BEYOND);
        }
        long was = sheets[s].numbers[i];
        sheets[s].put(i, v);
        return was;
    }

    public int copy(int s, int from, int t, int to, int n) {
        if (!isSheet(s) || !isSheet(t)) {
            return tell(BEYOND);
        }
        Sheet source = sheets[s];
        Sheet target = sheets[t];
        if (source.isMissing() || target.isMissing()) {
            return tell(MISSING);
        }
        if (source.bits != target.bits) {
            return tell(KIND);
        }
        if (!source.hasRun(from, n) || !target.hasRun(to, n)) {
            return tell(BEYOND);
        }
        System.arraycopy(source.numbers, from, target.numbers, to, n);
        return n;
    }

    public int lays(int s) {
        int finding = missingSheet(s);
        if (finding != 0) {
            return tell(finding);
        }
        Sheet page = sheets[s];
        int came = 0;
        for (int i = 0; i < page.length && i < fold.sheepCount; i++) {
            long number = page.numbers[i];
            if (number >= 0 && number <= Fold.MOST_WANTS) {
                fold.wants[i] = (int) number;
                came++;
            }
        }
        return came;
    }

    public int book(int s, int sheep) {
        int finding = missingSheet(s);
        if (finding != 0) {
            return tell(finding);
        }
        if (!fold.hasSheep(sheep)) {
            return tell(BEYOND);
        }
        Sheet page = sheets[s];
        startTrial();
        for (int i = 0; i < page.length; i++) {
            page.put(i, trial.wants[sheep]);
            trial.play(1);
        }
        return page.length;
    }

    public int read(int s, int sheep) {
        int finding = missingSheet(s);
        if (finding != 0) {
            return tell(finding);
        }
        if (!fold.hasSheep(sheep)) {
            return tell(BEYOND);
        }
        int pairs = 0;
        for (int k = 0; k < Kinds.MANY; k++) {
            for (int wants = 0; wants <= Fold.MOST_WANTS; wants++) {
                startTrial();
                trial.kinds[sheep] = k;
                trial.wants[sheep] = wants;
                if (trialSees(sheets[s], sheep)) {
                    pairs++;
                }
            }
        }
        return pairs;
    }

    // ---- images

    public int image() {
        kept.becomes(fold);
        isKept = true;
        return 1;
    }

    public int undo() {
        if (!isKept) {
            return tell(NONE);
        }
        fold.becomes(kept);
        return fold.sheepCount;
    }

    public int tear() {
        int was = isKept ? 1 : 0;
        isKept = false;
        return was;
    }

    public int count(int what) {
        switch (what) {
            case 0:
                return fold.sheepCount;
            case 1:
                return fold.manCount;
            case 2:
                return tape.length;
            case 3:
                return fold.seenByAll();
            default:
                return tell(BEYOND);
        }
    }

    public int status(int which) {
        if (which == -1) {
            int all = 0;
            for (int many : told) {
                all += many;
            }
            return all;
        }
        if (!isWithin(which, 0, FINDINGS - 1)) {
            return tell(BEYOND);
        }
        return told[which];
    }

    // ---- what several calls share

    private static boolean isWithin(int v, int least, int greatest) {
        return v >= least && v <= greatest;
    }

    private static boolean isGuise(int v) {
        return isWithin(v, 0, Fold.GUISES - 1);
    }

    private boolean isSheet(int s) {
        return isWithin(s, 0, sheets.length - 1);
    }

    /** The finding that stands against the use of a sheet, or 0. */
    private int missingSheet(int s) {
        if (!isSheet(s)) {
            return BEYOND;
        }
        return sheets[s].isMissing() ? MISSING : 0;
    }

    /** Every finding goes out through here, so that status() misses none. */
    private int tell(int finding) {
        int which = BEYOND - finding;
        if (isWithin(which, 0, FINDINGS - 1)) {
            told[which]++;
        }
        return finding;
    }

    private int answer(int best) {
        return best == NONE ? tell(NONE) : best;
    }

    private int withinWait(int minutes) {
        return minutes > LONGEST_WAIT ? tell(NONE) : minutes;
    }

    private void startTrial() {
        trial.becomes(fold);
    }

    private int wearWhenOut(int out, int n) {
        startTrial();
        trial.wearOut(out);
        trial.play(n);
        return trial.wearWithout(out);
    }

    private boolean trialSees(Sheet page, int sheep) {
        for (int i = 0; i < page.length; i++) {
            if (page.numbers[i] != trial.seen[sheep]) {
                return false;
            }
            trial.play(1);
        }
        return true;
    }

    /** What is so of a KIND, whoever is of it. */
    private static final class Kinds {
        static final int MANY = 6;
        static final int SHEEP = 0;
        static final int EWE = 1;
        static final int LAMB = 2;
        static final int WETHER = 3;
        static final int WAKER = 4;
        static final int TUP = 5;

        private static final int DOG = 1;
        private static final int STICK = 2;

        private static final int[] ABOVE = {-1, SHEEP, SHEEP, SHEEP, EWE, WETHER};
        private static final int[] WAKES = {0, 1, 2, 0, 2, 0};
        private static final int[] TIRES = {1, 1, 0, 1, 2, 1};

        private Kinds() {
        }

        static boolean isKind(int kind) {
            return kind >= 0 && kind < MANY;
        }

        static String nameOf(int kind) {
            switch (kind) {
                case EWE:
                    return "ewe";
                case LAMB:
                    return "lamb";
                case WETHER:
                    return "wether";
                case WAKER:
                    return "waker";
                case TUP:
                    return "tup";
                default:
                    return "sheep";
            }
        }

        static int wakesBy(int kind) {
            return isKind(kind) ? WAKES[kind] : 0;
        }

        static int tiresBy(int kind) {
            return isKind(kind) ? TIRES[kind] : 0;
        }

        /** Whether a kind is the other one or under it. */
        static boolean isOf(int kind, int other) {
            int k = kind;
            for (int step = 0; step < MANY && isKind(k); step++) {
                if (k == other) {
                    return true;
                }
                k = ABOVE[k];
            }
            return false;
        }

        static int unlike(int guise, int other) {
            return guise == -1 || other == -1 ? 3 : Integer.bitCount(guise ^ other);
        }

        /** What a passing COUNTS. */
        static int takesOff(int kind, int guise, int unlike, int minute) {
            int plain = 1 + unlike;
            int changed = unlike == 0 ? 0 : plain;
            int stick = (guise & STICK) != 0 ? 1 : 0;
            int dog = (guise & DOG) != 0 ? 2 : 0;
            switch (kind) {
                case EWE:
                    return plain + stick;
                case LAMB:
                    return 2 * plain;
                case WETHER:
                    return changed;
                case WAKER:
                    return Math.max(0, plain + stick - (minute & 1));
                case TUP:
                    return changed + dog;
                default:
                    return plain;
            }
        }
    }

    /** MINUTE, THE LAST, TURN, MEN and SHEEP: all that an image keeps. */
    private static final class Fold {
        static final int MOST_MEN = 6;
        static final int MOST_SHEEP = 8;
        static final int GUISES = 8;
        static final int MOST_WEAR = 99;
        static final int MOST_WANTS = 99;
        static final int FIRST_WANTS = 20;
        static final int MOST_SEEN = 9999;

        int minute;
        int last = -1;
        int turn;
        int manCount;
        final int[] guises = new int[MOST_MEN];
        final int[] wears = new int[MOST_MEN];
        int sheepCount;
        final int[] kinds = new int[MOST_SHEEP];
        final int[] wants = new int[MOST_SHEEP];
        final int[] seen = new int[MOST_SHEEP];

        void becomes(Fold other) {
            minute = other.minute;
            last = other.last;
            turn = other.turn;
            manCount = other.manCount;
            sheepCount = other.sheepCount;
            for (int m = 0; m < MOST_MEN; m++) {
                guises[m] = other.guises[m];
                wears[m] = other.wears[m];
            }
            for (int s = 0; s < MOST_SHEEP; s++) {
                kinds[s] = other.kinds[s];
                wants[s] = other.wants[s];
                seen[s] = other.seen[s];
            }
        }

        boolean hasMan(int man) {
            return man >= 0 && man < manCount;
        }

        boolean hasSheep(int sheep) {
            return sheep >= 0 && sheep < sheepCount;
        }

        boolean hasRoomForMan() {
            return manCount < MOST_MEN;
        }

        boolean hasRoomForSheep() {
            return sheepCount < MOST_SHEEP;
        }

        /** Only where there is room. */
        int addMan(int guise, int wear) {
            int man = manCount;
            if (hasRoomForMan()) {
                guises[man] = guise;
                wears[man] = wear;
                manCount++;
            }
            return man;
        }

        /** Only where there is room. */
        int addSheep(int kind, int wanted) {
            int sheep = sheepCount;
            if (hasRoomForSheep()) {
                kinds[sheep] = kind;
                wants[sheep] = wanted;
                seen[sheep] = 0;
                sheepCount++;
            }
            return sheep;
        }

        void dropLastMan() {
            if (manCount > 0) {
                manCount--;
                if (turn >= manCount) {
                    turn = 0;
                }
            }
        }

        void exchange(int man, int other) {
            int guise = guises[man];
            int wear = wears[man];
            guises[man] = guises[other];
            wears[man] = wears[other];
            guises[other] = guise;
            wears[other] = wear;
        }

        void wearOut(int men) {
            for (int m = 0; m < manCount; m++) {
                if (isIn(m, men)) {
                    wears[m] = MOST_WEAR;
                }
            }
        }

        static boolean isIn(int one, int set) {
            return ((set >> one) & 1) == 1;
        }

        boolean isAsleep(int sheep) {
            return wants[sheep] == 0;
        }

        boolean canPass(int man) {
            return wears[man] < MOST_WEAR;
        }

        int sleepers() {
            int set = 0;
            for (int s = 0; s < sheepCount; s++) {
                if (isAsleep(s)) {
                    set |= 1 << s;
                }
            }
            return set;
        }

        int passers() {
            int set = 0;
            for (int m = 0; m < manCount; m++) {
                if (canPass(m)) {
                    set |= 1 << m;
                }
            }
            return set;
        }

        int wantsOfAll() {
            int all = 0;
            for (int s = 0; s < sheepCount; s++) {
                all += wants[s];
            }
            return all;
        }

        int seenByAll() {
            int all = 0;
            for (int s = 0; s < sheepCount; s++) {
                all += seen[s];
            }
            return all;
        }

        int wearWithout(int men) {
            int all = 0;
            for (int m = 0; m < manCount; m++) {
                if (!isIn(m, men)) {
                    all += wears[m];
                }
            }
            return all;
        }

        boolean isQuiet() {
            for (int s = 0; s < sheepCount; s++) {
                if (!isAsleep(s)) {
                    return false;
                }
            }
            return true;
        }

        void play(int n) {
            for (int i = 0; i < n; i++) {
                playMinute();
            }
        }

        private void playMinute() {
            if (hasMan(turn) && canPass(turn)) {
                pass(turn);
            } else {
                stayAlone();
            }
            turn = turn + 1 < manCount ? turn + 1 : 0;
            minute++;
        }

        private void pass(int man) {
            int wear = wears[man];
            int unlike = Kinds.unlike(guises[man], last);
            for (int s = 0; s < sheepCount; s++) {
                if (!isAsleep(s)) {
                    int less = Kinds.takesOff(kinds[s], guises[man], unlike, minute);
                    wants[s] = Math.max(0, wants[s] - less);
                    seen[s] = Math.min(MOST_SEEN, seen[s] + 1);
                    wear += Kinds.tiresBy(kinds[s]);
                }
            }
            wears[man] = Math.min(MOST_WEAR, wear);
            last = guises[man];
        }

        private void stayAlone() {
            for (int s = 0; s < sheepCount; s++) {
                wants[s] = Math.min(MOST_WANTS, wants[s] + Kinds.wakesBy(kinds[s]));
            }
            last = -1;
        }

        /** In how many minutes it is so first; one more than the limit, if it isn't within that. */
        int playTillQuiet(int limit) {
            for (int i = 0; i <= limit; i++) {
                if (isQuiet()) {
                    return i;
                }
                playMinute();
            }
            return limit + 1;
        }

        /** As playTillQuiet, of one sheep. */
        int playTillAsleep(int sheep, int limit) {
            for (int i = 0; i <= limit; i++) {
                if (isAsleep(sheep)) {
                    return i;
                }
                playMinute();
            }
            return limit + 1;
        }

        /** As playTillQuiet, of a man who is worn out. */
        int playTillBare(int man, int limit) {
            for (int i = 0; i <= limit; i++) {
                if (!canPass(man)) {
                    return i;
                }
                playMinute();
            }
            return limit + 1;
        }
    }

    /** THE TAPE, and how it is read as THE TEXT of a FELL, token by token. */
    private static final class Tape {
        static final int MOST = 120;

        private static final int WORD = 1;
        private static final int NUMBER = 2;
        private static final int SEMICOLON = 3;
        private static final int STRANGE = 4;
        private static final int END = 5;
        private static final int MOST_NUMBER = 999;

        private final int[] bytes = new int[MOST];
        int length;

        /** The token that is looked at: its sort, its first byte, the byte behind it. */
        private int sort;
        private int start;
        private int behind;

        boolean hasRoomFor(int n) {
            return n <= MOST - length;
        }

        void append(int b) {
            if (hasRoomFor(1)) {
                bytes[length] = b;
                length++;
            }
        }

        /** Adds the ITEMS to a fold: how many, or -1 less the place of the FAULT. */
        int tellInto(Fold fold) {
            behind = 0;
            nextToken();
            for (int items = 1; items <= MOST; items++) {
                if (!takeItem(fold)) {
                    return -1 - start;
                }
                if (sort == END) {
                    return items;
                }
                if (sort != SEMICOLON) {
                    return -1 - start;
                }
                nextToken();
            }
            return -1 - start;
        }

        /** Whether an ITEM stands here; if not, the token that is looked at is the FAULT. */
        private boolean takeItem(Fold fold) {
            if (isWord("man")) {
                return fold.hasRoomForMan() && takeMan(fold);
            }
            int kind = kindNamed();
            return Kinds.isKind(kind) && fold.hasRoomForSheep() && takeSheep(fold, kind);
        }

        private boolean takeSheep(Fold fold, int kind) {
            nextToken();
            int wants = takeNumberAfter("wants", Fold.FIRST_WANTS, Fold.MOST_WANTS);
            if (wants < 0) {
                return false;
            }
            fold.addSheep(kind, wants);
            return true;
        }

        private boolean takeMan(Fold fold) {
            nextToken();
            int guise = takeWord("dog") ? 1 : 0;
            guise |= takeWord("stick") ? 2 : 0;
            guise |= takeWord("limp") ? 4 : 0;
            int wear = takeNumberAfter("worn", 0, Fold.MOST_WEAR);
            if (wear < 0) {
                return false;
            }
            fold.addMan(guise, wear);
            return true;
        }

        /** The number behind a word; what it is without that word; -1 if the word has no such number behind it. */
        private int takeNumberAfter(String word, int without, int greatest) {
            if (!isWord(word)) {
                return without;
            }
            nextToken();
            int taken = numberHere();
            if (taken > greatest) {
                return -1;
            }
            nextToken();
            return taken;
        }

        private boolean takeWord(String word) {
            if (!isWord(word)) {
                return false;
            }
            nextToken();
            return true;
        }

        private int kindNamed() {
            for (int k = 0; k < Kinds.MANY; k++) {
                if (isWord(Kinds.nameOf(k))) {
                    return k;
                }
            }
            return -1;
        }

        private boolean isWord(String word) {
            if (sort != WORD || behind - start != word.length()) {
                return false;
            }
            for (int i = 0; i < word.length(); i++) {
                if (bytes[start + i] != word.charAt(i)) {
                    return false;
                }
            }
            return true;
        }

        private void nextToken() {
            start = behind;
            while (start < length && bytes[start] == ' ') {
                start++;
            }
            sort = sortAt(start);
            behind = Math.min(length, start + 1);
            while (behind < length && (sort == WORD || sort == NUMBER) && sortAt(behind) == sort) {
                behind++;
            }
        }

        /** The sort of token that a byte begins, or goes on with. */
        private int sortAt(int place) {
            if (place < 0 || place >= length) {
                return END;
            }
            int b = bytes[place];
            if (b >= 'a' && b <= 'z') {
                return WORD;
            }
            if (b >= '0' && b <= '9') {
                return NUMBER;
            }
            return b == ';' ? SEMICOLON : STRANGE;
        }

        /** The number that is looked at; one above all that may be, if it is too great or no number. */
        private int numberHere() {
            if (sort != NUMBER) {
                return MOST_NUMBER + 1;
            }
            int number = 0;
            for (int i = start; i < behind && i < length; i++) {
                // held at each digit, so that many of them can't wrap around to a small number
                number = Math.min(MOST_NUMBER + 1, 10 * number + bytes[i] - '0');
            }
            return number;
        }
    }

    /** A row of numbers; it is MISSING while they have no bits. */
    private static final class Sheet {
        static final int MOST = 40;

        int bits;
        int length;
        final long[] numbers = new long[MOST];

        static boolean isWidth(int bits) {
            return bits == 8 || bits == 16 || bits == 64;
        }

        boolean isMissing() {
            return bits == 0;
        }

        void ruleAnew(int width, int n) {
            bits = width;
            length = width == 0 ? 0 : n;
            for (int i = 0; i < MOST; i++) {
                numbers[i] = 0;
            }
        }

        /** As Java's byte, short and long hold it: the highest bit that is left is the sign. */
        void put(int i, long v) {
            if (bits == 8) {
                numbers[i] = (byte) v;
            } else if (bits == 16) {
                numbers[i] = (short) v;
            } else {
                numbers[i] = v;
            }
        }

        boolean hasRun(int from, int n) {
            return from >= 0 && n >= 0 && from <= length - n;
        }
    }
}
