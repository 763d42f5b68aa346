/** Promises 20 to 27: what is best. */
public final class BestTest {
    private static final Due due = new Due("BestTest");

    public static void main(String[] args) {
        guise();
        guises();
        swap();
        spare();
        kind();
        most();
        begin();
        last();
        due.end();
    }

    private static void guise() {
        FlockCounts x = MinutesTest.slowEwe(50, 1);
        due.is("with a stick in 100", x.guise(0), 2);
        due.is("one who is bare", x.guise(1), Due.NONE);
        x.set(0, 1, 51);
        due.is("not within 100", x.guise(0), Due.NONE);
        x.set(0, 1, 0);
        due.is("quiet now: the least", x.guise(3), 0);
        due.is("guise(4)", x.guise(4), Due.BEYOND);
        due.is("guise(-1)", x.guise(-1), Due.BEYOND);
        due.is("nothing changed", x.manOf(0, 0), 0);

        x = oneOfFive(81);
        x.turn(0, 0);
        x.first(0);
        due.is("in 101", x.guise(0), Due.NONE);
        x.set(0, 1, 80);
        due.is("in 96", x.guise(0), 0);

        x = new FlockCounts();
        x.sheep(0);
        x.man(0);
        x.man(3);
        due.is("unlike the other in all", x.guise(0), 4);
        due.is("the other likewise", x.guise(1), 7);
        x.set(0, 1, 8);
        due.is("the least of several", x.guise(1), 7);
        x.set(0, 1, 6);
        due.is("the least of more", x.guise(1), 1);
    }

    private static void guises() {
        FlockCounts x = MinutesTest.slowEwe(30, 1);
        due.is("a stick first, in 60", x.guises(0, 1), 16);
        due.is("the other way about", x.guises(1, 0), 2);
        x.set(0, 1, 31);
        due.is("not within 60", x.guises(0, 1), Due.NONE);
        due.is("one and the same", x.guises(0, 0), Due.BEYOND);
        due.is("guises(0, 4)", x.guises(0, 4), Due.BEYOND);
        due.is("guises(4, 0)", x.guises(4, 0), Due.BEYOND);
        due.is("guises(-1, 0)", x.guises(-1, 0), Due.BEYOND);
        due.is("guises(0, -1)", x.guises(0, -1), Due.BEYOND);
        x.set(0, 1, 0);
        due.is("quiet now", x.guises(0, 1), 0);

        x = oneOfFive(49);
        x.turn(0, 0);
        x.first(0);
        due.is("in 61", x.guises(0, 1), Due.NONE);
        x.set(0, 1, 48);
        due.is("in 56", x.guises(0, 1), 0);
    }

    private static void swap() {
        FlockCounts x = MinutesTest.slowEwe(28, 1);
        due.is("112 as it is, 97 with him at once", x.swap(), 1);
        due.is("nothing changed", x.manOf(0, 1), 0);
        x.first(0);
        due.is("none sooner", x.swap(), Due.NONE);
        x.first(2);
        due.is("he where the turn is", x.swap(), 2);
        x.set(0, 1, 29);
        due.is("not within 100", x.swap(), Due.NONE);

        x = new FlockCounts();
        for (int m = 0; m < 3; m++) {
            x.man(1);
            x.dress(m, 1, m == 0 ? 1 : 99);
        }
        x.sheep(1);
        x.set(0, 1, 69);
        x.first(1);
        due.is("105 as it is, 100 with him at once", x.swap(), 1);
        x = oneOfFive(81);
        x.turn(0, 0);
        due.is("101 with him at once", x.swap(), Due.NONE);
        x.set(0, 1, 80);
        due.is("96 with him at once", x.swap(), 1);

        x = new FlockCounts();
        for (int m = 0; m < 3; m++) {
            x.man(0);
            x.dress(m, 1, m == 1 ? 0 : 99);
        }
        x.sheep(0);
        x.set(0, 1, 4);
        x.first(2);
        due.is("neither is the first", x.swap(), 12);

        x = new FlockCounts();
        due.is("no men", x.swap(), Due.NONE);
        x.sheep(0);
        x.man(0);
        due.is("one man", x.swap(), Due.NONE);
        x.man(0);
        x.man(7);
        x.man(7);
        due.is("alike ones together: the least that parts them", x.swap(), 3);
        x.set(0, 1, 0);
        due.is("quiet now", x.swap(), Due.NONE);
    }

    private static void spare() {
        FlockCounts x = new FlockCounts();
        due.is("no men", x.spare(1, 0), 0);
        x.man(0);
        x.man(7);
        x.sheep(0);
        x.set(0, 1, 99);
        due.is("all may pass", x.spare(10, 10), 0);
        due.is("one is out, the least", x.spare(10, 9), 1);
        due.is("one, just so", x.spare(10, 5), 1);
        due.is("all are out", x.spare(10, 4), 3);
        due.is("all are out, at 0", x.spare(40, 0), 3);
        x.dress(1, 1, 50);
        due.is("the worn one is out", x.spare(10, 20), 2);
        due.is("both may pass", x.spare(10, 60), 0);
        due.is("spare(0, 1)", x.spare(0, 1), Due.BEYOND);
        due.is("spare(41, 1)", x.spare(41, 1), Due.BEYOND);
        due.is("spare(1, -1)", x.spare(1, -1), Due.BEYOND);
        due.is("spare(1, 595)", x.spare(1, 595), Due.BEYOND);
        due.is("spare(1, 594)", x.spare(1, 594), 0);
        due.is("nothing changed", x.manOf(0, 1), 0);

        x.dress(1, 1, 0);
        x.set(0, 1, 20);
        due.is("five passings in all", x.spare(40, 5), 0);
        due.is("one alone must pass five times too", x.spare(40, 4), 3);

        x = new FlockCounts();
        for (int m = 0; m < 6; m++) {
            x.man(m);
            x.dress(m, 1, 1);
        }
        due.is("all six", x.spare(1, 0), 63);
        due.is("five of six", x.spare(1, 1), 31);

        x = new FlockCounts();
        for (int m = 0; m < 3; m++) {
            x.man(m);
            x.dress(m, 1, 10 * (3 - m));
        }
        due.is("fewest before least", x.spare(1, 30), 1);
        due.is("two", x.spare(1, 10), 3);
        due.is("two of others", x.spare(1, 9), 7);
        x.dress(0, 1, 1);
        x.dress(2, 1, 20);
        due.is("two, not the first", x.spare(1, 1), 6);
        due.is("one, not the first", x.spare(1, 21), 2);
    }

    private static FlockCounts oneOfFive(int wants) {
        FlockCounts x = new FlockCounts();
        for (int m = 0; m < 5; m++) {
            x.man(0);
            x.dress(m, 1, m == 0 ? 0 : 99);
        }
        x.first(1);
        x.sheep(1);
        x.set(0, 1, wants);
        return x;
    }

    private static void kind() {
        FlockCounts x = oneOfFive(80);
        due.is("as a sheep, in 100", x.kind(0), 0);
        due.is("nothing changed", x.of(0, 0), 1);
        x.dress(0, 0, 1);
        due.is("with a dog as a tup", x.kind(0), 5);
        x.dress(0, 0, 0);
        x.set(0, 1, 81);
        due.is("not within 100", x.kind(0), Due.NONE);
        x.first(0);
        due.is("in 101", x.kind(0), Due.NONE);
        x.set(0, 1, 80);
        due.is("in 96", x.kind(0), 0);
        x.set(0, 1, 8);
        due.is("as a lamb, in 1", x.kind(0), 2);
        x.set(0, 1, 0);
        due.is("asleep now", x.kind(0), 0);
        due.is("kind(1)", x.kind(1), Due.BEYOND);
        due.is("kind(-1)", x.kind(-1), Due.BEYOND);
    }

    private static void most() {
        FlockCounts x = new FlockCounts();
        x.sheep(0);
        x.sheep(1);
        due.is("a sheep that sleeps", x.most(0, 1), 0);
        due.is("an ewe wakes", x.most(1, 1), Due.NONE);
        x.man(0);
        due.is("most(0, 1)", x.most(0, 1), 4);
        due.is("most(0, 5)", x.most(0, 5), 8);
        x.dress(0, 1, 93);
        due.is("he is bare in three", x.most(0, 2), 5);
        due.is("then none takes more off", x.most(0, 9), 6);
        x.set(1, 1, 0);
        x.dress(0, 1, 0);
        due.is("most(0, 95)", x.most(0, 95), 98);
        due.is("most(0, 96)", x.most(0, 96), 99);
        due.is("most(0, 100)", x.most(0, 100), 99);
        due.is("most(0, 101)", x.most(0, 101), Due.BEYOND);
        due.is("most(0, 0)", x.most(0, 0), Due.BEYOND);
        due.is("most(2, 1)", x.most(2, 1), Due.BEYOND);
        due.is("most(-1, 1)", x.most(-1, 1), Due.BEYOND);
        due.is("nothing changed", x.of(0, 1), 20);
    }

    private static void begin() {
        FlockCounts x = new FlockCounts();
        due.is("no men", x.begin(1), Due.NONE);
        due.is("no men, beyond first", x.begin(0), Due.BEYOND);
        x.sheep(0);
        x.man(0);
        x.man(7);
        due.is("alike: the least", x.begin(1), 0);
        x.minutes(2);
        x.first(0);
        due.is("unlike the last", x.begin(1), 0);
        x.minutes(1);
        due.is("unlike the last again", x.begin(1), 1);
        due.is("turn stays", x.now(2), 1);
        x.dress(1, 1, 99);
        due.is("not the bare one", x.begin(1), 0);
        due.is("the bare one: all unlike then", x.begin(2), 1);
        due.is("begin(101)", x.begin(101), Due.BEYOND);
        due.is("begin(-1)", x.begin(-1), Due.BEYOND);
        due.is("begin(100)", x.begin(100), 0);
    }

    private static void last() {
        FlockCounts x = new FlockCounts();
        due.is("no sheep", x.last(), Due.NONE);
        x.sheep(0);
        x.sheep(2);
        x.sheep(0);
        due.is("none ever: the least", x.last(), 0);
        x.set(0, 1, 0);
        due.is("one that doesn't at all", x.last(), 1);
        FlockCounts asleep = new FlockCounts();
        asleep.sheep(0);
        asleep.set(0, 1, 0);
        due.is("all asleep now", asleep.last(), 0);
        x.man(0);
        due.is("the slowest", x.last(), 2);
        x.set(0, 1, 20);
        due.is("the least of several", x.last(), 0);
        x.set(2, 1, 21);
        due.is("one minute later", x.last(), 2);
        x.set(1, 1, 99);
        due.is("a lamb that wants most", x.last(), 1);

        x = MinutesTest.slowEwe(50, 1);
        x.sheep(3);
        x.turn(1, 1);
        x.set(1, 1, 51);
        due.is("200 before 204", x.last(), 1);
        x.set(0, 1, 55);
        due.is("both beyond 200: the least", x.last(), 0);
    }
}
