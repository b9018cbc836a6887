import java.util.List;
import java.util.NoSuchElementException;
import java.util.function.Consumer;

/** The boundary cases of promises 1 to 7: a method for each sentence of the document that names one. */
final class KeyBounds {
    private static final Class<IllegalArgumentException> ARGUMENT = IllegalArgumentException.class;
    private static final Class<IllegalStateException> STATE = IllegalStateException.class;
    private static final Class<IndexOutOfBoundsException> INDEX = IndexOutOfBoundsException.class;
    private static final Class<NoSuchElementException> NO_ELEMENT = NoSuchElementException.class;
    private static final int MIN = Integer.MIN_VALUE;
    private static final int MAX = Integer.MAX_VALUE;

    private final Checks checks;

    private KeyBounds(Checks checks) {
        this.checks = checks;
    }

    static void check(Checks checks) {
        KeyBounds bounds = new KeyBounds(checks);
        bounds.newObject();
        bounds.addKeyNumber();
        bounds.addKeyArguments();
        bounds.addKeyRoom();
        bounds.loseKeyNumberOfBuilds();
        bounds.loseKeyNoKey();
        bounds.loseKeyLost();
        bounds.extendKeyLastBefore();
        bounds.extendKeyNoKey();
        bounds.extendKeyArguments();
        bounds.extendKeyLostOrPassed();
        bounds.isLiveTrue();
        bounds.isLiveNoKey();
        bounds.setWeightBefore();
        bounds.setWeightArguments();
        bounds.setThresholdBefore();
        bounds.setThresholdArguments();
    }

    private void newObject() {
        checks.sentence("Promise 1", "Creates a line without keys, builds and mirrors, on the day 0.");
        Consumer<Buildlots> fresh = Scenes::empty;
        Buildlots x = new Buildlots();
        checks.due("day()", x.day(), 0);
        checks.due("scoreSumBits()", x.scoreSumBits(), 0L);
        checks.refuses(INDEX, "loseKey(0)", fresh, y -> y.loseKey(0));
        checks.refuses(INDEX, "extendKey(0, 5)", fresh, y -> y.extendKey(0, 5));
        checks.refuses(INDEX, "isLive(0)", fresh, y -> y.isLive(0));
        checks.refuses(INDEX, "hangsOnKey(0)", fresh, y -> y.hangsOnKey(0));
        checks.refuses(ARGUMENT, "build(0, 1, 0)", fresh, y -> y.build(0, 1, 0));
        checks.refuses(INDEX, "nameOf(0)", fresh, y -> y.nameOf(0));
        checks.refuses(INDEX, "version(0)", fresh, y -> y.version(0));
        checks.refuses(INDEX, "uses(0, 0)", fresh, y -> y.uses(0, 0));
        checks.refuses(INDEX, "used(0)", fresh, y -> y.used(0));
        checks.refuses(INDEX, "attest(0, 0)", fresh, y -> y.attest(0, 0));
        checks.refuses(INDEX, "vouches(0, 0)", fresh, y -> y.vouches(0, 0));
        checks.refuses(INDEX, "vouchesByList(0, 0)", fresh, y -> y.vouchesByList(0, 0));
        checks.refuses(INDEX, "score(0)", fresh, y -> y.score(0));
        checks.refuses(INDEX, "scoreBits(0)", fresh, y -> y.scoreBits(0));
        checks.refuses(INDEX, "isTrusted(0)", fresh, y -> y.isTrusted(0));
        checks.refuses(INDEX, "recall(0)", fresh, y -> y.recall(0));
        checks.refuses(INDEX, "lift(0)", fresh, y -> y.lift(0));
        checks.refuses(INDEX, "isRecalled(0)", fresh, y -> y.isRecalled(0));
        checks.refuses(INDEX, "rebuild(0, 0)", fresh, y -> y.rebuild(0, 0));
        checks.refuses(INDEX, "share(0)", fresh, y -> y.share(0));
        checks.refuses(INDEX, "update(0)", fresh, y -> y.update(0));
        checks.refuses(INDEX, "isExpired(0)", fresh, y -> y.isExpired(0));
        checks.refuses(INDEX, "install(0, 0)", fresh, y -> y.install(0, 0));
        checks.refusesEach(NO_ELEMENT, "newest(#)", fresh, List.of(0, 1, 2, 3, 4), (y, name) -> y.newest(name));
        checks.due("pass(60)", x.pass(60), 0);
    }

    private void addKeyNumber() {
        checks.sentence("Promise 2", "Returns the number of the key.");
        Buildlots x = new Buildlots();
        for (int key = 0; key < 8; key++) {
            Checks.answer(x, y -> y.addKey(0, 5, 4));
            checks.due("addKey as number " + key + ", after a refused one", x.addKey(0, x.day(), 999), key);
            x.pass(1);
        }
    }

    private void addKeyArguments() {
        checks.sentence("Promise 2",
                "Throws `IllegalArgumentException` if there is no such signer, the first day is less than today, or the"
                        + " last one is less than the first one or greater than 999");
        checks.refusesEach(ARGUMENT, "addKey(#, 0, 999)", Scenes::empty, Checks.notBetweenZeroAnd(3),
                (x, signer) -> x.addKey(signer, 0, 999));
        checks.due("addKey(0, 0, 999)", new Buildlots().addKey(0, 0, 999), 0);
        checks.due("addKey(3, 0, 999)", new Buildlots().addKey(3, 0, 999), 0);
        for (int today : new int[] {0, 1, 61, 998, 999}) {
            Consumer<Buildlots> scene = Scenes.onDay(today);
            String on = " on day " + today;
            checks.refusesEach(ARGUMENT, "addKey(0, #, 999)" + on, scene,
                    List.of(today - 1, -1, MIN, MIN + today, 1000, MAX), (x, first) -> x.addKey(0, first, 999));
            checks.refusesEach(ARGUMENT, "addKey(0, #, #)" + on, scene, List.of(today - 1, -1, MIN, 1000, MAX),
                    (x, day) -> x.addKey(0, day, day));
            checks.refusesEach(ARGUMENT, "addKey(0, today, #)" + on, scene,
                    List.of(today - 1, -1, MIN, 1000, 1001, 1999, MAX), (x, last) -> x.addKey(0, x.day(), last));
            checks.refuses(ARGUMENT, "addKey(0, 999, 998)" + on, scene, x -> x.addKey(0, 999, 998));
            Buildlots x = Scenes.line(scene);
            checks.due("addKey(0, today, today)" + on, x.addKey(0, today, today), 0);
            checks.due("addKey(0, today, 999)" + on, x.addKey(0, today, 999), 1);
            checks.due("addKey(0, 999, 999)" + on, x.addKey(0, 999, 999), 2);
        }
    }

    private void addKeyRoom() {
        checks.sentence("Promise 2", "Throws `IllegalStateException` if there are 8 keys");
        checks.due("addKey as the eighth", Scenes.line(Scenes.keys(7)).addKey(3, 0, 0), 7);
        checks.refuses(STATE, "addKey as the ninth", Scenes.keys(8), x -> x.addKey(3, 0, 0));
        checks.refuses(STATE, "addKey as the ninth, with all lost", Scenes.keys(8).andThen(x -> loseAll(x, 8)),
                x -> x.addKey(3, 0, 0));
        checks.refuses(STATE, "addKey as the ninth, with all past", Scenes.keys(8).andThen(Scenes.onDay(11)),
                x -> x.addKey(3, 11, 12));
    }

    private static void loseAll(Buildlots x, int count) {
        for (int key = 0; key < count; key++) {
            x.loseKey(key);
        }
    }

    private void loseKeyNumberOfBuilds() {
        checks.sentence("Promise 3", "Returns how many builds are not trusted any more by this.");
        checks.due("loseKey(0), without builds", Scenes.line(Scenes.keys(1)).loseKey(0), 0);
        checks.due("loseKey(0), of the trust in 24 builds", Scenes.line(Scenes.trusted(24)).loseKey(0), 24);
        checks.due("loseKey(1), of the trust in one build", Scenes.line(Scenes.trusted(1)).loseKey(1), 1);
        Buildlots x = Scenes.line(Scenes.trusted(24));
        x.loseKey(0);
        checks.due("loseKey(1), with none trusted", x.loseKey(1), 0);
        Buildlots y = Scenes.line(Scenes.trusted(24));
        y.setThreshold(0, 50);
        checks.due("loseKey(0), with half enough for 5 builds", y.loseKey(0), 19);
        checks.due("loseKey(1), with these 5 left", y.loseKey(1), 5);
    }

    private void loseKeyNoKey() {
        checks.sentence("Promise 3", "Throws `IndexOutOfBoundsException` if there is no such key");
        for (int count : new int[] {0, 1, 8}) {
            checks.refusesEach(INDEX, "loseKey(#) of " + count, Scenes.keys(count),
                    Checks.notBetweenZeroAnd(count - 1), (x, key) -> x.loseKey(key));
            checks.refusesEach(INDEX, "loseKey(#) of " + count + ", all lost", Scenes.keys(count)
                    .andThen(x -> loseAll(x, count)), Checks.notBetweenZeroAnd(count - 1), (x, key) -> x.loseKey(key));
        }
        checks.due("loseKey(7) of 8", Scenes.line(Scenes.keys(8)).loseKey(7), 0);
    }

    private void loseKeyLost() {
        checks.sentence("Promise 3", "Throws `IllegalStateException` if it is lost");
        Consumer<Buildlots> lost = Scenes.trusted(2).andThen(x -> x.loseKey(0));
        checks.refuses(STATE, "loseKey(0) again", lost, x -> x.loseKey(0));
        checks.refuses(STATE, "loseKey(0) again, past its last day", lost.andThen(Scenes.onDay(11)),
                x -> x.loseKey(0));
        checks.due("loseKey(1) beside it", Scenes.line(lost).loseKey(1), 0);
        Consumer<Buildlots> early = x -> {
            x.addKey(0, 5, 9);
            x.loseKey(0);
        };
        checks.refuses(STATE, "loseKey(0) again, ahead of its first day", early, x -> x.loseKey(0));
        checks.refuses(STATE, "loseKey(0) again, on its first day", early.andThen(Scenes.onDay(5)),
                x -> x.loseKey(0));
        checks.refuses(STATE, "loseKey(7) again", Scenes.keys(8).andThen(x -> x.loseKey(7)), x -> x.loseKey(7));
    }

    private void extendKeyLastBefore() {
        checks.sentence("Promise 4", "Returns the last day before.");
        Buildlots x = new Buildlots();
        x.addKey(0, 0, 0);
        checks.due("extendKey(0, 1)", x.extendKey(0, 1), 0);
        checks.due("extendKey(0, 998)", x.extendKey(0, 998), 1);
        checks.due("extendKey(0, 999)", x.extendKey(0, 999), 998);
    }

    private void extendKeyNoKey() {
        checks.sentence("Promise 4", "Throws `IndexOutOfBoundsException` if there is no such key");
        for (int count : new int[] {0, 1, 8}) {
            for (int last : new int[] {20, 0, 1000}) {
                checks.refusesEach(INDEX, "extendKey(#, " + last + ") of " + count, Scenes.keys(count),
                        Checks.notBetweenZeroAnd(count - 1), (x, key) -> x.extendKey(key, last));
            }
        }
        checks.due("extendKey(7, 20) of 8", Scenes.line(Scenes.keys(8)).extendKey(7, 20), 10);
    }

    private void extendKeyArguments() {
        checks.sentence("Promise 4",
                "Throws `IllegalArgumentException` if it is not later than the one before, or greater than 999");
        checks.refusesEach(ARGUMENT, "extendKey(0, #), to the day 10 before", Scenes.keys(1),
                List.of(10, 9, 0, -1, MIN, 1000, 1001, MAX), (x, last) -> x.extendKey(0, last));
        checks.due("extendKey(0, 11), to the day 10 before", Scenes.line(Scenes.keys(1)).extendKey(0, 11), 10);
        checks.due("extendKey(0, 999), to the day 10 before", Scenes.line(Scenes.keys(1)).extendKey(0, 999), 10);
        checks.refusesEach(ARGUMENT, "extendKey(0, #), to the day 11, extended", Scenes.keys(1)
                .andThen(x -> x.extendKey(0, 11)), List.of(11, 10), (x, last) -> x.extendKey(0, last));
        checks.refusesEach(ARGUMENT, "extendKey(0, #), to the last of all days", x -> x.addKey(0, 0, 999),
                List.of(999, 998, 1000, MIN, MAX), (x, last) -> x.extendKey(0, last));
        checks.refusesEach(ARGUMENT, "extendKey(0, #), on the last of all days",
                Scenes.onDay(999).andThen(x -> x.addKey(0, 999, 999)), List.of(999, 998, 1000, MIN, MAX),
                (x, last) -> x.extendKey(0, last));
    }

    private void extendKeyLostOrPassed() {
        checks.sentence("Promise 4", "Throws `IllegalStateException` if the key is lost, or its last day has passed");
        Consumer<Buildlots> lost = Scenes.keys(2).andThen(x -> x.loseKey(0));
        List<Integer> later = List.of(11, 12, 999);
        checks.refusesEach(STATE, "extendKey(0, #), lost", lost, later, (x, last) -> x.extendKey(0, last));
        checks.due("extendKey(1, 11) beside it", Scenes.line(lost).extendKey(1, 11), 10);
        checks.refusesEach(STATE, "extendKey(0, #), lost, on its last day", lost.andThen(Scenes.onDay(10)), later,
                (x, last) -> x.extendKey(0, last));
        checks.refusesEach(STATE, "extendKey(0, #), lost and past", lost.andThen(Scenes.onDay(11)), later,
                (x, last) -> x.extendKey(0, last));
        checks.refusesEach(STATE, "extendKey(0, #), lost ahead of its first day", x -> {
            x.addKey(0, 5, 10);
            x.loseKey(0);
        }, later, (x, last) -> x.extendKey(0, last));
        Consumer<Buildlots> onLast = Scenes.keys(1).andThen(Scenes.onDay(10));
        checks.due("extendKey(0, 11) on its last day", Scenes.line(onLast).extendKey(0, 11), 10);
        checks.refusesEach(STATE, "extendKey(0, #) a day later", onLast.andThen(x -> x.pass(1)), later,
                (x, last) -> x.extendKey(0, last));
        checks.refuses(STATE, "extendKey(0, 999) on day 999 of a key to 998",
                x -> Scenes.onDay(999).accept(withKey(x, 998)), x -> x.extendKey(0, 999));
    }

    private static Buildlots withKey(Buildlots x, int last) {
        x.addKey(0, 0, last);
        return x;
    }

    private void isLiveTrue() {
        checks.sentence("Promise 5", "Returns true if so.");
        Buildlots x = new Buildlots();
        x.addKey(0, 0, 0);
        x.addKey(1, 1, 1);
        x.addKey(2, 0, 999);
        x.addKey(3, 999, 999);
        x.addKey(0, 998, 998);
        for (int day : new int[] {0, 1, 2, 997, 998, 999}) {
            Scenes.passTo(x, day);
            checks.due("isLive(0) on day " + day, x.isLive(0), day == 0);
            checks.due("isLive(1) on day " + day, x.isLive(1), day == 1);
            checks.due("isLive(2) on day " + day, x.isLive(2), true);
            checks.due("isLive(3) on day " + day, x.isLive(3), day == 999);
            checks.due("isLive(4) on day " + day, x.isLive(4), day == 998);
        }
        x.loseKey(3);
        checks.due("isLive(3), lost on its only day", x.isLive(3), false);
        checks.due("isLive(2), beside it", x.isLive(2), true);
    }

    private void isLiveNoKey() {
        checks.sentence("Promise 5", "Throws `IndexOutOfBoundsException` if there is no such key");
        for (int count : new int[] {0, 1, 8}) {
            checks.refusesEach(INDEX, "isLive(#) of " + count, Scenes.keys(count),
                    Checks.notBetweenZeroAnd(count - 1), (x, key) -> x.isLive(key));
        }
        checks.due("isLive(7) of 8", Scenes.line(Scenes.keys(8)).isLive(7), true);
    }

    private void setWeightBefore() {
        checks.sentence("Promise 6", "Returns the weight before.");
        Buildlots x = new Buildlots();
        for (int signer = 0; signer < 4; signer++) {
            checks.due("setWeight(" + signer + ", 0)", x.setWeight(signer, 0), 50);
            checks.due("setWeight(" + signer + ", 100)", x.setWeight(signer, 100), 0);
            checks.due("setWeight(" + signer + ", 100) again", x.setWeight(signer, 100), 100);
        }
    }

    private void setWeightArguments() {
        checks.sentence("Promise 6",
                "Throws `IllegalArgumentException` if there is no such signer, or the weight is not between 0 and 100");
        checks.refusesEach(ARGUMENT, "setWeight(#, 50)", Scenes.trusted(1), Checks.notBetweenZeroAnd(3),
                (x, signer) -> x.setWeight(signer, 50));
        for (int signer : new int[] {0, 3}) {
            checks.refusesEach(ARGUMENT, "setWeight(" + signer + ", #)", Scenes.trusted(1),
                    Checks.notBetweenZeroAnd(100), (x, weight) -> x.setWeight(signer, weight));
        }
        checks.refuses(ARGUMENT, "setWeight(4, 101)", Scenes.trusted(1), x -> x.setWeight(4, 101));
        Buildlots x = Scenes.line(Scenes.trusted(1));
        for (int weight : new int[] {0, 1, 99, 100}) {
            x.setWeight(0, weight);
            checks.due("setWeight(0, 50) after setWeight(0, " + weight + ")", x.setWeight(0, 50), weight);
        }
    }

    private void setThresholdBefore() {
        checks.sentence("Promise 7", "Returns the threshold before.");
        Buildlots x = new Buildlots();
        for (int name = 0; name < 5; name++) {
            checks.due("setThreshold(" + name + ", 1)", x.setThreshold(name, 1), 100);
            checks.due("setThreshold(" + name + ", 400)", x.setThreshold(name, 400), 1);
            checks.due("setThreshold(" + name + ", 400) again", x.setThreshold(name, 400), 400);
        }
    }

    private void setThresholdArguments() {
        checks.sentence("Promise 7",
                "Throws `IllegalArgumentException` if there is no such name, or the threshold is not between 1 and"
                        + " 400");
        checks.refusesEach(ARGUMENT, "setThreshold(#, 50)", Scenes.trusted(1), Checks.notBetweenZeroAnd(4),
                (x, name) -> x.setThreshold(name, 50));
        for (int name : new int[] {0, 4}) {
            checks.refusesEach(ARGUMENT, "setThreshold(" + name + ", #)", Scenes.trusted(1),
                    Checks.notBetween(1, 400), (x, threshold) -> x.setThreshold(name, threshold));
        }
        checks.refuses(ARGUMENT, "setThreshold(5, 0)", Scenes.trusted(1), x -> x.setThreshold(5, 0));
        Buildlots x = Scenes.line(Scenes.trusted(1));
        for (int threshold : new int[] {1, 2, 399, 400}) {
            x.setThreshold(0, threshold);
            checks.due("setThreshold(0, 9) after setThreshold(0, " + threshold + ")", x.setThreshold(0, 9), threshold);
        }
    }
}
