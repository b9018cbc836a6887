import java.util.NoSuchElementException;

/** Promises 8 to 13: builds. */
public final class BuildsTest {
    private static final Class<IllegalArgumentException> ARGUMENT = IllegalArgumentException.class;
    private static final Class<IllegalStateException> STATE = IllegalStateException.class;
    private static final Class<IndexOutOfBoundsException> INDEX = IndexOutOfBoundsException.class;
    private static final Class<UnsupportedOperationException> UNSUPPORTED = UnsupportedOperationException.class;
    private static final Class<NoSuchElementException> NO_ELEMENT = NoSuchElementException.class;
    private static final Checks CHECKS = new Checks("BuildsTest");

    public static void main(String[] args) {
        build();
        buildRefuses();
        nameAndVersion();
        usesAndUsed();
        longChain();
        newest();
        newestRefuses();
        CHECKS.end();
    }

    /** Build 2 uses 1, which uses 0; build 3 uses nothing; build 4 uses 2 and 3. */
    private static void tree(Buildlots x) {
        x.build(0, 0, 10);
        x.build(1, 1, 11);
        x.build(0, 2, 12);
        x.build(4, 0, 13);
        x.build(0, 4 + 8, 14);
    }

    private static void treeWithRecall(Buildlots x) {
        tree(x);
        x.recall(1);
    }

    private static void fullStore(Buildlots x) {
        for (int build = 0; build < 24; build++) {
            x.build(build % 5, 0, build);
        }
    }

    private static void fullStoreWithRecall(Buildlots x) {
        fullStore(x);
        x.recall(23);
    }

    private static void build() {
        CHECKS.promise(8);
        Buildlots x = new Buildlots();
        CHECKS.due("build(0, 0, MIN)", x.build(0, 0, Integer.MIN_VALUE), 0);
        CHECKS.due("build(4, 1, MAX)", x.build(4, 1, Integer.MAX_VALUE), 1);
        CHECKS.due("build(2, 3, 5)", x.build(2, 3, 5), 2);
        CHECKS.due("rebuild(0, MIN)", x.rebuild(0, Integer.MIN_VALUE), true);
        CHECKS.due("rebuild(1, MAX)", x.rebuild(1, Integer.MAX_VALUE), true);
        CHECKS.due("rebuild(2, 5)", x.rebuild(2, 5), true);
        CHECKS.due("isTrusted(2)", x.isTrusted(2), false);
        CHECKS.due("isRecalled(2)", x.isRecalled(2), false);
        x.recall(2);
        CHECKS.due("build(2, 3, 5) beside a recalled one", x.build(2, 3, 5), 3);
        Buildlots y = new Buildlots();
        for (int build = 0; build < 24; build++) {
            CHECKS.due("build from all before", y.build(0, (1 << build) - 1, 0), build);
        }
        CHECKS.due("used(23)", y.used(23), 23);
    }

    private static void buildRefuses() {
        CHECKS.promise(8);
        for (int name : Checks.notBetweenZeroAnd(4)) {
            CHECKS.refuses(ARGUMENT, "build(" + name + ", 0, 0)", BuildsTest::tree, x -> x.build(name, 0, 0));
            CHECKS.refuses(ARGUMENT, "build(" + name + ", 2, 0), recalled", BuildsTest::treeWithRecall,
                    x -> x.build(name, 2, 0));
        }
        for (int inputs : new int[] {32, 33, 1 << 24, 1 << 30, Integer.MIN_VALUE, -1, Integer.MAX_VALUE}) {
            CHECKS.refuses(ARGUMENT, "build(0, " + inputs + ", 0)", BuildsTest::tree, x -> x.build(0, inputs, 0));
        }
        CHECKS.refuses(ARGUMENT, "build(0, 1, 0) as the first", x -> x.day(), x -> x.build(0, 1, 0));
        CHECKS.refuses(ARGUMENT, "build(0, 2 + 32, 0)", BuildsTest::treeWithRecall, x -> x.build(0, 2 + 32, 0));
        CHECKS.refuses(UNSUPPORTED, "build(0, 2, 0), marked", BuildsTest::treeWithRecall, x -> x.build(0, 2, 0));
        CHECKS.refuses(UNSUPPORTED, "build(0, 16, 0), by input", BuildsTest::treeWithRecall, x -> x.build(0, 16, 0));
        CHECKS.refuses(UNSUPPORTED, "build(0, 1 + 4, 0)", BuildsTest::treeWithRecall, x -> x.build(0, 1 + 4, 0));
        CHECKS.refuses(STATE, "build as the 25th", BuildsTest::fullStore, x -> x.build(0, 1, 0));
        CHECKS.refuses(STATE, "build as the 25th", BuildsTest::fullStoreWithRecall, x -> x.build(0, 1, 0));
        CHECKS.refuses(UNSUPPORTED, "build of the recalled as the 25th", BuildsTest::fullStoreWithRecall,
                x -> x.build(0, 1 << 23, 0));
        CHECKS.refuses(ARGUMENT, "build of what is not as the 25th", BuildsTest::fullStoreWithRecall,
                x -> x.build(0, 1 << 24, 0));
        CHECKS.refuses(ARGUMENT, "build of no name as the 25th", BuildsTest::fullStore, x -> x.build(5, 0, 0));
    }

    private static void nameAndVersion() {
        Buildlots x = new Buildlots();
        int[] names = {0, 1, 0, 4, 0, 1, 2};
        int[] versions = {1, 1, 2, 1, 3, 2, 1};
        for (int name : names) {
            x.build(name, 0, 0);
        }
        x.recall(2);
        for (int build = 0; build < names.length; build++) {
            CHECKS.promise(9);
            CHECKS.due("nameOf(" + build + ")", x.nameOf(build), names[build]);
            CHECKS.promise(10);
            CHECKS.due("version(" + build + ")", x.version(build), versions[build]);
        }
        x.build(0, 0, 0);
        CHECKS.due("version(7), after a recall of its name", x.version(7), 4);
        for (int build : Checks.notBetweenZeroAnd(4)) {
            CHECKS.promise(9);
            CHECKS.refuses(INDEX, "nameOf(" + build + ")", BuildsTest::tree, y -> y.nameOf(build));
            CHECKS.promise(10);
            CHECKS.refuses(INDEX, "version(" + build + ")", BuildsTest::tree, y -> y.version(build));
        }
        CHECKS.promise(9);
        CHECKS.refuses(INDEX, "nameOf(24)", BuildsTest::fullStore, y -> y.nameOf(24));
        CHECKS.promise(10);
        CHECKS.refuses(INDEX, "version(24)", BuildsTest::fullStore, y -> y.version(24));
    }

    private static void usesAndUsed() {
        Buildlots x = new Buildlots();
        tree(x);
        int[] used = {0, 1, 3, 0, 15};
        used[2] = 1 + 2;
        used[4] = 1 + 2 + 4 + 8;
        for (int build = 0; build < used.length; build++) {
            CHECKS.promise(11);
            for (int other = 0; other < used.length; other++) {
                CHECKS.due("uses(" + build + ", " + other + ")", x.uses(build, other), (used[build] >> other) % 2 == 1);
            }
            CHECKS.promise(12);
            CHECKS.due("used(" + build + ")", x.used(build), Integer.bitCount(used[build]));
        }
        for (int build : Checks.notBetweenZeroAnd(4)) {
            CHECKS.promise(11);
            CHECKS.refuses(INDEX, "uses(" + build + ", 0)", BuildsTest::tree, y -> y.uses(build, 0));
            CHECKS.refuses(INDEX, "uses(0, " + build + ")", BuildsTest::tree, y -> y.uses(0, build));
            CHECKS.promise(12);
            CHECKS.refuses(INDEX, "used(" + build + ")", BuildsTest::tree, y -> y.used(build));
        }
    }

    private static void longChain() {
        Buildlots x = new Buildlots();
        for (int build = 0; build < 24; build++) {
            x.build(0, build == 0 ? 0 : 1 << (build - 1), 0);
        }
        CHECKS.promise(11);
        CHECKS.due("uses(23, 0)", x.uses(23, 0), true);
        CHECKS.due("uses(0, 23)", x.uses(0, 23), false);
        CHECKS.due("uses(23, 23)", x.uses(23, 23), false);
        CHECKS.promise(12);
        CHECKS.due("used(23)", x.used(23), 23);
        CHECKS.due("used(11)", x.used(11), 11);
    }

    /** Of the name 0 there are the builds 0, 1 and 3, of the name 1 there is 2; all but 3 are trusted. */
    private static void trusted(Buildlots x) {
        x.addKey(0, 0, 5);
        x.addKey(1, 0, 9);
        x.build(0, 0, 0);
        x.build(0, 0, 0);
        x.build(1, 0, 0);
        x.build(0, 1, 0);
        for (int build = 0; build < 3; build++) {
            x.attest(build, 0);
            x.attest(build, 1);
        }
    }

    private static void newest() {
        CHECKS.promise(13);
        Buildlots x = new Buildlots();
        trusted(x);
        CHECKS.due("newest(0)", x.newest(0), 1);
        CHECKS.due("newest(1)", x.newest(1), 2);
        x.attest(3, 0);
        x.attest(3, 1);
        CHECKS.due("newest(0), with 3 trusted", x.newest(0), 3);
        x.recall(0);
        CHECKS.due("newest(0), with 0 recalled and 3 by it", x.newest(0), 1);
        x.lift(0);
        CHECKS.due("newest(0), with the recall lifted", x.newest(0), 3);
        x.recall(3);
        CHECKS.due("newest(0), with 3 marked", x.newest(0), 1);
        x.setThreshold(0, 50);
        x.pass(6);
        CHECKS.due("newest(0), with half the score enough", x.newest(0), 1);
        x.recall(1);
        CHECKS.due("newest(0), with only the first one left", x.newest(0), 0);
    }

    private static void newestRefuses() {
        CHECKS.promise(13);
        for (int name : Checks.notBetweenZeroAnd(4)) {
            CHECKS.refuses(ARGUMENT, "newest(" + name + ")", BuildsTest::trusted, x -> x.newest(name));
        }
        CHECKS.refuses(NO_ELEMENT, "newest(4), without builds", BuildsTest::trusted, x -> x.newest(4));
        CHECKS.refuses(NO_ELEMENT, "newest(0), without trust", BuildsTest::tree, x -> x.newest(0));
        CHECKS.refuses(NO_ELEMENT, "newest(0), past a key's last day", x -> {
            trusted(x);
            x.pass(6);
        }, x -> x.newest(0));
        CHECKS.refuses(NO_ELEMENT, "newest(1), recalled", x -> {
            trusted(x);
            x.recall(2);
        }, x -> x.newest(1));
    }
}
