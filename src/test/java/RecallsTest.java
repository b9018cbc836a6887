import java.util.NoSuchElementException;

/** Promises 21 to 25: recalls and rebuilders. */
public final class RecallsTest {
    private static final Class<IllegalStateException> STATE = IllegalStateException.class;
    private static final Class<IndexOutOfBoundsException> INDEX = IndexOutOfBoundsException.class;
    private static final Class<NoSuchElementException> NO_ELEMENT = NoSuchElementException.class;
    private static final Checks CHECKS = new Checks("RecallsTest");

    public static void main(String[] args) {
        recallAndLift();
        recallRefuses();
        isRecalled();
        rebuild();
        rebuildRefuses();
        share();
        shareRefuses();
        CHECKS.end();
    }

    /** Build 1 uses 0; 2 uses 1 and 0; 3 uses nothing; 4 uses 3. */
    private static void tree(Buildlots x) {
        x.build(0, 0, 10);
        x.build(1, 1, -11);
        x.build(2, 2, 12);
        x.build(3, 0, 13);
        x.build(4, 8, 14);
    }

    private static void marked(Buildlots x) {
        tree(x);
        x.recall(1);
    }

    private static void recallAndLift() {
        Buildlots x = new Buildlots();
        tree(x);
        CHECKS.promise(21);
        CHECKS.due("recall(1)", x.recall(1), 2);
        CHECKS.due("recall(2), recalled by its input", x.recall(2), 0);
        CHECKS.due("recall(0), with 1 and 2 recalled", x.recall(0), 1);
        CHECKS.due("recall(4)", x.recall(4), 1);
        CHECKS.due("recall(3), with 4 recalled", x.recall(3), 1);
        CHECKS.promise(22);
        CHECKS.due("lift(1), with 0 marked", x.lift(1), 0);
        CHECKS.due("lift(0), with 2 marked", x.lift(0), 2);
        CHECKS.due("lift(2)", x.lift(2), 1);
        CHECKS.due("lift(3), with 4 marked", x.lift(3), 1);
        CHECKS.due("lift(4)", x.lift(4), 1);
        CHECKS.promise(21);
        CHECKS.due("recall(0), of all that uses it", x.recall(0), 3);
        CHECKS.promise(22);
        CHECKS.due("lift(0), of all that uses it", x.lift(0), 3);
        CHECKS.due("build from what was lifted", x.build(0, 31, 0), 5);
    }

    private static void recallRefuses() {
        for (int build : Checks.notBetweenZeroAnd(4)) {
            CHECKS.promise(21);
            CHECKS.refuses(INDEX, "recall(" + build + ")", RecallsTest::marked, x -> x.recall(build));
            CHECKS.promise(22);
            CHECKS.refuses(INDEX, "lift(" + build + ")", RecallsTest::marked, x -> x.lift(build));
            CHECKS.promise(23);
            CHECKS.refuses(INDEX, "isRecalled(" + build + ")", RecallsTest::marked, x -> x.isRecalled(build));
        }
        CHECKS.promise(21);
        CHECKS.refuses(STATE, "recall(1) again", RecallsTest::marked, x -> x.recall(1));
        CHECKS.promise(22);
        CHECKS.refuses(STATE, "lift(0), not marked", RecallsTest::marked, x -> x.lift(0));
        CHECKS.refuses(STATE, "lift(2), recalled but not marked", RecallsTest::marked, x -> x.lift(2));
        CHECKS.refuses(STATE, "lift(1) again", x -> {
            marked(x);
            x.lift(1);
        }, x -> x.lift(1));
    }

    private static void isRecalled() {
        CHECKS.promise(23);
        Buildlots x = new Buildlots();
        tree(x);
        recalledAre(x, 0);
        x.recall(1);
        recalledAre(x, 2 + 4);
        x.recall(3);
        recalledAre(x, 2 + 4 + 8 + 16);
        x.recall(0);
        x.lift(1);
        recalledAre(x, 1 + 2 + 4 + 8 + 16);
        x.lift(3);
        x.pass(1);
        recalledAre(x, 1 + 2 + 4);
        x.lift(0);
        recalledAre(x, 0);
    }

    private static void recalledAre(Buildlots x, int builds) {
        for (int build = 0; build < 5; build++) {
            CHECKS.due("isRecalled(" + build + ")", x.isRecalled(build), (builds >> build) % 2 == 1);
        }
    }

    private static void rebuild() {
        CHECKS.promise(24);
        Buildlots x = new Buildlots();
        tree(x);
        CHECKS.due("rebuild(0, 10)", x.rebuild(0, 10), true);
        CHECKS.due("rebuild(0, 11)", x.rebuild(0, 11), false);
        CHECKS.due("rebuild(1, -11)", x.rebuild(1, -11), true);
        CHECKS.due("rebuild(1, 11)", x.rebuild(1, 11), false);
        x.recall(4);
        CHECKS.due("rebuild(4, 14), recalled", x.rebuild(4, 14), true);
        Buildlots y = new Buildlots();
        tree(y);
        for (int told = 1; told <= 98; told++) {
            y.rebuild(0, told);
        }
        CHECKS.due("rebuild(0, 10) as the 99th", y.rebuild(0, 10), true);
        CHECKS.due("rebuild(3, 13) of another build", y.rebuild(3, 13), true);
    }

    private static void ninetyNineResults(Buildlots x) {
        tree(x);
        for (int told = 0; told < 99; told++) {
            x.rebuild(0, 10);
        }
    }

    private static void rebuildRefuses() {
        CHECKS.promise(24);
        for (int build : Checks.notBetweenZeroAnd(4)) {
            CHECKS.refuses(INDEX, "rebuild(" + build + ", 10)", RecallsTest::ninetyNineResults,
                    x -> x.rebuild(build, 10));
        }
        CHECKS.refuses(STATE, "rebuild(0, 10) as the 100th", RecallsTest::ninetyNineResults, x -> x.rebuild(0, 10));
        CHECKS.refuses(STATE, "rebuild(0, 9) as the 100th", RecallsTest::ninetyNineResults, x -> x.rebuild(0, 9));
    }

    private static void share() {
        CHECKS.promise(25);
        Buildlots x = new Buildlots();
        tree(x);
        int own = 0;
        for (int told = 1; told <= 99; told++) {
            boolean same = told % 3 != 1;
            x.rebuild(0, same ? 10 : told * 100);
            own += same ? 1 : 0;
            CHECKS.due("share(0) after " + told, x.share(0), (float) own / (float) told);
        }
        x.rebuild(1, 5);
        CHECKS.due("share(1), with none of its own", x.share(1), 0.0f);
        x.rebuild(2, 12);
        CHECKS.due("share(2), with all its own", x.share(2), 1.0f);
        x.recall(2);
        CHECKS.due("share(2), recalled", x.share(2), 1.0f);
    }

    private static void shareRefuses() {
        CHECKS.promise(25);
        for (int build : Checks.notBetweenZeroAnd(4)) {
            CHECKS.refuses(INDEX, "share(" + build + ")", RecallsTest::ninetyNineResults, x -> x.share(build));
        }
        CHECKS.refuses(NO_ELEMENT, "share(1), without results", RecallsTest::ninetyNineResults, x -> x.share(1));
    }
}
