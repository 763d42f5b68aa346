import java.util.function.Consumer;

/**
 * A recipe for an object: the same calls on a new one whenever it is made, so that one can be held against its twin.
 * A scene never changes; each step makes another one.
 */
final class Scene {
    private final Scene before;
    private final Consumer<FlockCounts> step;
    private final int men;
    private final int sheep;

    Scene() {
        this(null, x -> { }, 0, 0);
    }

    private Scene(Scene before, Consumer<FlockCounts> step, int men, int sheep) {
        this.before = before;
        this.step = step;
        this.men = men;
        this.sheep = sheep;
    }

    FlockCounts make() {
        FlockCounts x = before == null ? new FlockCounts() : before.make();
        step.accept(x);
        return x;
    }

    /** Any calls but such as change how many men or sheep there are. */
    Scene then(Consumer<FlockCounts> calls) {
        return new Scene(this, calls, men, sheep);
    }

    Scene man(int guise, int wear) {
        return new Scene(this, x -> {
            x.man(guise);
            x.dress(men, 1, wear);
        }, men + 1, sheep);
    }

    Scene men(int many, int guise, int wear) {
        return many == 0 ? this : man(guise, wear).men(many - 1, guise, wear);
    }

    Scene sheep(int kind, int wants, int seen) {
        return new Scene(this, x -> {
            x.sheep(kind);
            x.set(sheep, 1, wants);
            x.set(sheep, 2, seen);
        }, men, sheep + 1);
    }

    Scene sheep(int kind, int wants) {
        return sheep(kind, wants, 0);
    }

    Scene flock(int many, int kind, int wants) {
        return many == 0 ? this : sheep(kind, wants).flock(many - 1, kind, wants);
    }

    Scene first(int man) {
        return then(x -> x.first(man));
    }

    Scene minutes(int n) {
        return then(x -> x.minutes(n));
    }

    Scene tape(String text) {
        return then(x -> Due.feed(x, text));
    }

    Scene sheet(int s, int bits, long... numbers) {
        return then(x -> {
            x.sheet(s, bits, numbers.length);
            for (int i = 0; i < numbers.length; i++) {
                x.write(s, i, numbers[i]);
            }
        });
    }

    Scene kept() {
        return then(x -> x.image());
    }

    /** Three men, three sheep, something everywhere (sheet 3 is MISSING), findings already told, an older image. */
    static Scene busy() {
        return new Scene().man(3, 10).man(5, 99).man(0, 40).sheep(1, 50, 3).sheep(2, 0, 7).sheep(5, 30, 9000)
            .kept().minutes(1).then(x -> {
                x.dress(2, 1, 41);
                x.set(1, 2, 8);
                x.man(8);
                x.as(0, 2);
            }).tape("man limp worn 7").sheet(0, 8, 1, -2, 3).sheet(1, 16, 400, 0, -5, 7).sheet(2, 64, 1L << 40, 9);
    }

    /** Six men, eight sheep, a tape of 120 bytes, four sheets of 40 numbers: no room anywhere. */
    static Scene full() {
        Scene scene = new Scene();
        for (int m = 0; m < 6; m++) {
            scene = scene.man(7 - m, 10 * m);
        }
        for (int s = 0; s < 8; s++) {
            scene = scene.sheep(s % 6, 10 + s, 100 * s);
        }
        scene = scene.kept().minutes(2).tape(" ".repeat(104) + "man stick worn 5");
        long[] row = new long[40];
        for (int i = 0; i < row.length; i++) {
            row[i] = 60 + i;
        }
        return scene.sheet(0, 8, row).sheet(1, 16, row).sheet(2, 64, row).sheet(3, 8, row);
    }

    /**
     * One man of six can pass: every sixth minute he takes 4 off a plain sheep, that is quiet first in so many
     * minutes (99 at most in six goes of 25 passings).
     */
    static Scene quietIn(int minutes) {
        int passings = (minutes - 1) / 6 + 1;
        int wait = (minutes - 1) % 6;
        return new Scene().man(0, 0).men(5, 0, 99).sheep(0, 4 * passings).first((6 - wait) % 6);
    }

    /**
     * One man of four can pass: in each round an ewe loses 4 and wakes 3, so it sleeps in 201 minutes first, one
     * more than sleeps() and its like look at.
     */
    static Scene asleepIn201() {
        return new Scene().man(0, 0).men(3, 0, 99).sheep(1, 54);
    }
}
