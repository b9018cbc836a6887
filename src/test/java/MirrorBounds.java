import java.util.List;
import java.util.NoSuchElementException;
import java.util.function.Consumer;

/** The boundary cases of promises 26 to 33: a method for each sentence of the document that names one. */
final class MirrorBounds {
    private static final Class<IllegalArgumentException> ARGUMENT = IllegalArgumentException.class;
    private static final Class<IllegalStateException> STATE = IllegalStateException.class;
    private static final Class<IndexOutOfBoundsException> INDEX = IndexOutOfBoundsException.class;
    private static final Class<UnsupportedOperationException> UNSUPPORTED = UnsupportedOperationException.class;
    private static final Class<NoSuchElementException> NO_ELEMENT = NoSuchElementException.class;
    private static final List<Integer> NAMES = List.of(0, 1, 2, 3, 4);

    private final Checks checks;

    private MirrorBounds(Checks checks) {
        this.checks = checks;
    }

    static void check(Checks checks) {
        MirrorBounds bounds = new MirrorBounds(checks);
        bounds.addMirrorNumber();
        bounds.addMirrorRoom();
        bounds.updateNumber();
        bounds.updateNoMirror();
        bounds.isExpiredTrue();
        bounds.isExpiredNoMirror();
        bounds.setExpiryBefore();
        bounds.setExpiryArgument();
        bounds.installNumber();
        bounds.installNoMirror();
        bounds.installNoName();
        bounds.installExpired();
        bounds.installNone();
        bounds.passNumber();
        bounds.passArgument();
        bounds.dayNumber();
        bounds.scoreSumOfNone();
        bounds.scoreSumBitsNumber();
    }

    private static Consumer<Buildlots> upToDate(Consumer<Buildlots> scene, int mirror) {
        return scene.andThen(Scenes.mirrors(3)).andThen(x -> x.update(mirror));
    }

    private void addMirrorNumber() {
        checks.sentence("Promise 26", "Returns the number of the mirror.");
        Buildlots x = Scenes.line(Scenes.trusted(1));
        for (int mirror = 0; mirror < 3; mirror++) {
            checks.due("addMirror() as number " + mirror, x.addMirror(), mirror);
            x.update(mirror);
        }
    }

    private void addMirrorRoom() {
        checks.sentence("Promise 26", "Throws `IllegalStateException` if there are 3 mirrors");
        checks.due("addMirror() as the third", Scenes.line(Scenes.mirrors(2)).addMirror(), 2);
        checks.refuses(STATE, "addMirror() as the fourth", Scenes.mirrors(3), x -> x.addMirror());
        checks.refuses(STATE, "addMirror() as the fourth, with all expired",
                upToDate(Scenes.trusted(1), 0).andThen(Scenes.onDay(8)), x -> x.addMirror());
    }

    private void updateNumber() {
        checks.sentence("Promise 27", "Returns how many builds its list holds.");
        checks.due("update(0), without builds", Scenes.line(Scenes.mirrors(1)).update(0), 0);
        for (int count : new int[] {1, 23, 24}) {
            Buildlots x = Scenes.line(Scenes.chain(count).andThen(Scenes.mirrors(3)));
            checks.due("update(2), of " + count, x.update(2), count);
            x.recall(0);
            checks.due("update(2), of " + count + ", all recalled", x.update(2), count);
            checks.due("update(0), of " + count + ", all recalled", x.update(0), count);
        }
    }

    private void noMirror(String call, Checks.Numbered ask) {
        for (int count : new int[] {0, 1, 3}) {
            Consumer<Buildlots> scene = Scenes.trusted(2).andThen(Scenes.mirrors(count)).andThen(x -> {
                for (int mirror = 0; mirror < count; mirror++) {
                    x.update(mirror);
                }
            });
            checks.refusesEach(INDEX, call + " of " + count, scene, Checks.notBetweenZeroAnd(count - 1), ask);
        }
    }

    private void updateNoMirror() {
        checks.sentence("Promise 27", "Throws `IndexOutOfBoundsException` if there is no such mirror");
        noMirror("update(#)", (x, mirror) -> x.update(mirror));
        checks.due("update(2) of 3", Scenes.line(Scenes.mirrors(3)).update(2), 0);
    }

    private void isExpiredTrue() {
        checks.sentence("Promise 28", "Returns true if so.");
        for (int expiry : new int[] {0, 1, 7, 98, 99}) {
            Buildlots x = Scenes.line(upToDate(Scenes.onDay(60), 1));
            x.setExpiry(expiry);
            Scenes.passTo(x, 60 + expiry);
            checks.due("isExpired(1), after " + expiry + " days of " + expiry, x.isExpired(1), false);
            checks.due("isExpired(2), never up to date", x.isExpired(2), true);
            x.pass(1);
            checks.due("isExpired(1), a day later", x.isExpired(1), true);
            x.update(1);
            checks.due("isExpired(1), up to date again", x.isExpired(1), false);
        }
        Buildlots y = Scenes.line(upToDate(Scenes::empty, 0));
        Scenes.passTo(y, 999);
        checks.due("isExpired(0), on the last day", y.isExpired(0), true);
        y.update(0);
        checks.due("isExpired(0), up to date on the last day", y.isExpired(0), false);
    }

    private void isExpiredNoMirror() {
        checks.sentence("Promise 28", "Throws `IndexOutOfBoundsException` if there is no such mirror");
        noMirror("isExpired(#)", (x, mirror) -> x.isExpired(mirror));
        checks.due("isExpired(2) of 3", Scenes.line(upToDate(Scenes::empty, 2)).isExpired(2), false);
    }

    private void setExpiryBefore() {
        checks.sentence("Promise 29", "Returns the expiry before.");
        Buildlots x = new Buildlots();
        checks.due("setExpiry(99)", x.setExpiry(99), 7);
        checks.due("setExpiry(99) again", x.setExpiry(99), 99);
        checks.due("setExpiry(0)", x.setExpiry(0), 99);
        checks.due("setExpiry(0) again", x.setExpiry(0), 0);
        checks.due("setExpiry(1)", x.setExpiry(1), 0);
    }

    private void setExpiryArgument() {
        checks.sentence("Promise 29", "Throws `IllegalArgumentException` if it is not between 0 and 99");
        checks.refusesEach(ARGUMENT, "setExpiry(#)", Scenes.listed(), Checks.notBetweenZeroAnd(99),
                (x, days) -> x.setExpiry(days));
        Buildlots x = Scenes.line(Scenes.listed());
        for (int days : new int[] {0, 1, 98, 99}) {
            x.setExpiry(days);
            checks.due("setExpiry(7) after setExpiry(" + days + ")", x.setExpiry(7), days);
        }
    }

    private void installNumber() {
        checks.sentence("Promise 30", "Returns the number of the build.");
        checks.due("install(0, 0), of one build", Scenes.line(upToDate(Scenes.trusted(1), 0)).install(0, 0), 0);
        Buildlots x = Scenes.line(upToDate(Scenes.trusted(24), 2));
        for (int name : NAMES) {
            checks.due("install(2, " + name + "), of 24 builds", x.install(2, name), name < 4 ? 20 + name : 19);
        }
    }

    private void installNoMirror() {
        checks.sentence("Promise 30", "Throws `IndexOutOfBoundsException` if there is no such mirror");
        noMirror("install(#, 0)", (x, mirror) -> x.install(mirror, 0));
        checks.due("install(2, 0) of 3", Scenes.line(upToDate(Scenes.trusted(1), 2)).install(2, 0), 0);
    }

    private void installNoName() {
        checks.sentence("Promise 30", "Throws `IllegalArgumentException` if there is no such name");
        checks.refusesEach(ARGUMENT, "install(0, #)", upToDate(Scenes.trusted(24), 0), Checks.notBetweenZeroAnd(4),
                (x, name) -> x.install(0, name));
        checks.due("install(0, 4)", Scenes.line(upToDate(Scenes.trusted(24), 0)).install(0, 4), 19);
    }

    private void installExpired() {
        checks.sentence("Promise 30", "Throws `UnsupportedOperationException` if the list is expired");
        Consumer<Buildlots> scene = upToDate(Scenes.trusted(24), 0);
        checks.refusesEach(UNSUPPORTED, "install(1, #), never up to date", scene, NAMES,
                (x, name) -> x.install(1, name));
        checks.due("install(0, 0), after 7 days", Scenes.line(scene.andThen(Scenes.onDay(7))).install(0, 0), 20);
        checks.refusesEach(UNSUPPORTED, "install(0, #), after 8 days", scene.andThen(Scenes.onDay(8)), NAMES,
                (x, name) -> x.install(0, name));
        checks.refuses(UNSUPPORTED, "install(0, 0), a day past the expiry 0",
                scene.andThen(x -> x.setExpiry(0)).andThen(Scenes.onDay(1)), x -> x.install(0, 0));
        Buildlots x = Scenes.line(scene.andThen(Scenes.onDay(8)));
        x.update(0);
        checks.due("install(0, 0), up to date again", x.install(0, 0), 20);
    }

    private void installNone() {
        checks.sentence("Promise 30", "Throws `NoSuchElementException` if there is no build that it may install");
        checks.refusesEach(NO_ELEMENT, "install(0, #), from a list of no builds", upToDate(Scenes::empty, 0)
                .andThen(Scenes.trusted(5)), NAMES, (x, name) -> x.install(0, name));
        checks.refusesEach(NO_ELEMENT, "install(0, #), of names without builds", upToDate(Scenes.trusted(1), 0),
                List.of(1, 2, 3, 4), (x, name) -> x.install(0, name));
        checks.refusesEach(NO_ELEMENT, "install(0, #), all recalled in the list",
                upToDate(Scenes.trusted(24).andThen(x -> x.recall(0)), 0).andThen(x -> x.lift(0)), NAMES,
                (x, name) -> x.install(0, name));
        checks.refusesEach(NO_ELEMENT, "install(0, #), not trusted", upToDate(Scenes.builds(24), 0), NAMES,
                (x, name) -> x.install(0, name));
        checks.refusesEach(NO_ELEMENT, "install(0, #), a day past the keys", Scenes.trusted(24)
                .andThen(Scenes.onDay(10)).andThen(Scenes.mirrors(1)).andThen(x -> {
                    x.update(0);
                    x.pass(1);
                }), NAMES, (x, name) -> x.install(0, name));
    }

    private void passNumber() {
        checks.sentence("Promise 31", "Returns how many builds were trusted ahead of this and are not any more.");
        checks.due("pass(60), without builds", new Buildlots().pass(60), 0);
        Buildlots x = Scenes.line(Scenes.trusted(24));
        checks.due("pass(10), to the last day", x.pass(10), 0);
        checks.due("pass(1), past it", x.pass(1), 24);
        checks.due("pass(1), with none trusted", x.pass(1), 0);
        Buildlots y = Scenes.line(Scenes.trusted(24));
        y.extendKey(0, 11);
        y.setThreshold(4, 50);
        checks.due("pass(11), past one key", y.pass(11), 20);
        checks.due("pass(1), past the other", y.pass(1), 4);
        checks.due("pass(60), over all days of the keys", Scenes.line(Scenes.trusted(24)).pass(60), 24);
    }

    private void passArgument() {
        checks.sentence("Promise 31",
                "Throws `IllegalArgumentException` if it is not between 1 and 60, or the day would be greater than"
                        + " 999");
        checks.refusesEach(ARGUMENT, "pass(#)", Scenes.listed(), Checks.notBetween(1, 60), (x, days) -> x.pass(days));
        Buildlots x = Scenes.line(Scenes.listed());
        x.pass(1);
        x.pass(60);
        checks.due("day(), after 1 and 60 days", x.day(), 61);
        for (int days : new int[] {1, 2, 59, 60}) {
            Buildlots y = Scenes.line(Scenes.onDay(999 - days));
            checks.due("pass(" + days + ") to the day 999", y.pass(days), 0);
            checks.due("day(), after it", y.day(), 999);
            checks.refuses(ARGUMENT, "pass(" + days + ") to the day 1000", Scenes.onDay(1000 - days),
                    z -> z.pass(days));
        }
        checks.refusesEach(ARGUMENT, "pass(#) on the day 999", Scenes.onDay(999),
                List.of(1, 2, 59, 60, 61, 0, -1, -999, Integer.MIN_VALUE, Integer.MAX_VALUE, Integer.MAX_VALUE - 998),
                (z, days) -> z.pass(days));
    }

    private void dayNumber() {
        checks.sentence("Promise 32", "Returns the day.");
        Buildlots x = new Buildlots();
        checks.due("day() at first", x.day(), 0);
        for (int day = 1; day <= 200; day++) {
            x.pass(1);
            checks.due("day() after " + day + " days", x.day(), day);
        }
        Scenes.passTo(x, 999);
        checks.due("day() on the last one", x.day(), 999);
    }

    private void scoreSumOfNone() {
        checks.sentence("Promise 33",
                "Returns the bits of the sum of the scores of all builds, each converted to double and added in their"
                        + " order, beginning with 0.0, as Double.doubleToLongBits gives them.");
        checks.due("scoreSumBits(), without builds", new Buildlots().scoreSumBits(), 0L);
        checks.due("scoreSumBits(), without vouchers", Scenes.line(Scenes.builds(24)).scoreSumBits(), 0L);
        Buildlots x = Scenes.line(Scenes.trusted(24));
        checks.due("scoreSumBits(), of 24 scores 1.0f", x.scoreSumBits(), Double.doubleToLongBits(24.0));
        x.setWeight(0, 0);
        x.setWeight(1, 0);
        checks.due("scoreSumBits(), of 24 scores 0.0f", x.scoreSumBits(), 0L);
        x.setWeight(0, 1);
        checks.due("scoreSumBits(), of 24 scores 0.01f", x.scoreSumBits(), bitsOfSum(24, 1 / 100.0f));
        x.setWeight(0, 33);
        checks.due("scoreSumBits(), of 24 scores 0.33f", x.scoreSumBits(), bitsOfSum(24, 33 / 100.0f));
        // the floats are summed as doubles: neither the sum of floats nor of hundredths has these bits
        checks.due("bits of 24 times 0.33f", bitsOfSum(24, 33 / 100.0f) == Double.doubleToLongBits(24 * 0.33), false);
    }

    private static long bitsOfSum(int count, float score) {
        double sum = 0.0;
        for (int build = 0; build < count; build++) {
            sum = sum + (double) score;
        }
        return Double.doubleToLongBits(sum);
    }

    private void scoreSumBitsNumber() {
        checks.sentence("Promise 33", "Returns the bits.");
        Buildlots x = Scenes.line(Scenes.keys(4).andThen(Scenes.builds(24)));
        for (int signer = 0; signer < 4; signer++) {
            x.setWeight(signer, 100);
        }
        x.attest(23, 3);
        x.setWeight(3, 1);
        checks.due("scoreSumBits(), the least above 0", x.scoreSumBits(), Double.doubleToLongBits((double) 0.01f));
        x.setWeight(3, 100);
        for (int build = 0; build < 24; build++) {
            for (int key = 0; key < 4; key++) {
                if (build < 23 || key < 3) {
                    x.attest(build, key);
                }
            }
        }
        checks.due("scoreSumBits(), the greatest", x.scoreSumBits(), 0x4058000000000000L);
    }
}
