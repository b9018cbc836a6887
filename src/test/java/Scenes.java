import java.util.function.Consumer;

/** Lines to begin with: as many keys, builds or mirrors as a test asks for, up to the most that there may be. */
final class Scenes {
    private static final int FEW_DAYS = 10;

    private Scenes() {
    }

    static void empty(Buildlots x) {
    }

    /** Keys of the signers 0, 1, 2, 3, 0, .. that are live from today for ten days. */
    static Consumer<Buildlots> keys(int count) {
        return x -> {
            int today = x.day();
            for (int key = 0; key < count; key++) {
                x.addKey(key % 4, today, today + FEW_DAYS);
            }
        };
    }

    /** Builds of the names 0, 1, 2, 3, 4, 0, .. without inputs; the result of each is 100 more than its number. */
    static Consumer<Buildlots> builds(int count) {
        return x -> {
            for (int build = 0; build < count; build++) {
                x.build(build % 5, 0, 100 + build);
            }
        };
    }

    /** The same, but that each has the one before as its input. */
    static Consumer<Buildlots> chain(int count) {
        return x -> {
            for (int build = 0; build < count; build++) {
                x.build(build % 5, build == 0 ? 0 : 1 << (build - 1), 100 + build);
            }
        };
    }

    /** The builds of a chain, attested with the keys 0 and 1, so that the score of each is just enough. */
    static Consumer<Buildlots> trusted(int count) {
        return keys(2).andThen(chain(count)).andThen(x -> {
            for (int build = 0; build < count; build++) {
                x.attest(build, 0);
                x.attest(build, 1);
            }
        });
    }

    static Consumer<Buildlots> mirrors(int count) {
        return x -> {
            for (int mirror = 0; mirror < count; mirror++) {
                x.addMirror();
            }
        };
    }

    /** Three builds that are trusted and two mirrors, of which the mirror 0 is up to date. */
    static Consumer<Buildlots> listed() {
        return trusted(3).andThen(mirrors(2)).andThen(x -> x.update(0));
    }

    static Consumer<Buildlots> onDay(int day) {
        return x -> passTo(x, day);
    }

    static void passTo(Buildlots x, int day) {
        while (x.day() < day) {
            x.pass(Math.min(60, day - x.day()));
        }
    }

    static Buildlots line(Consumer<Buildlots> scene) {
        Buildlots x = new Buildlots();
        scene.accept(x);
        return x;
    }
}
