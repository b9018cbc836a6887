import java.util.List;
import java.util.NoSuchElementException;
import java.util.function.Consumer;

/** The boundary cases of promises 21 to 25: a method for each sentence of the document that names one. */
final class RecallBounds {
    private static final Class<IllegalStateException> STATE = IllegalStateException.class;
    private static final Class<IndexOutOfBoundsException> INDEX = IndexOutOfBoundsException.class;
    private static final Class<NoSuchElementException> NO_ELEMENT = NoSuchElementException.class;

    private final Checks checks;

    private RecallBounds(Checks checks) {
        this.checks = checks;
    }

    static void check(Checks checks) {
        RecallBounds bounds = new RecallBounds(checks);
        bounds.recallNumber();
        bounds.recallNoBuild();
        bounds.recallMarked();
        bounds.liftNumber();
        bounds.liftNoBuild();
        bounds.liftNotMarked();
        bounds.isRecalledTrue();
        bounds.isRecalledNoBuild();
        bounds.rebuildTrue();
        bounds.rebuildNoBuild();
        bounds.rebuildRoom();
        bounds.shareNumber();
        bounds.shareNoBuild();
        bounds.shareNoResult();
    }

    private static Consumer<Buildlots> marked(int build) {
        return Scenes.chain(24).andThen(x -> x.recall(build));
    }

    private static Consumer<Buildlots> told(int build, int times, int result) {
        return Scenes.builds(24).andThen(x -> {
            for (int time = 0; time < times; time++) {
                x.rebuild(build, result);
            }
        });
    }

    private void noBuild(String call, Checks.Numbered ask) {
        for (int count : new int[] {0, 1, 24}) {
            checks.refusesEach(INDEX, call + " of " + count, Scenes.chain(count),
                    Checks.notBetweenZeroAnd(count - 1), ask);
        }
    }

    private void recallNumber() {
        checks.sentence("Promise 21", "Returns how many builds are recalled by this that were not.");
        checks.due("recall(0), of the only one", Scenes.line(Scenes.chain(1)).recall(0), 1);
        checks.due("recall(0), of a chain of 24", Scenes.line(Scenes.chain(24)).recall(0), 24);
        checks.due("recall(23), of a chain of 24", Scenes.line(Scenes.chain(24)).recall(23), 1);
        checks.due("recall(0), of 24 without inputs", Scenes.line(Scenes.builds(24)).recall(0), 1);
        Buildlots x = Scenes.line(marked(0));
        checks.due("recall(23), with all recalled", x.recall(23), 0);
        checks.due("recall(1), with all recalled", x.recall(1), 0);
        Buildlots y = Scenes.line(marked(12));
        checks.due("recall(0), with 12 to 23 recalled", y.recall(0), 12);
    }

    private void recallNoBuild() {
        checks.sentence("Promise 21", "Throws `IndexOutOfBoundsException` if there is no such build");
        noBuild("recall(#)", (x, build) -> x.recall(build));
        for (int count : new int[] {1, 24}) {
            checks.refusesEach(INDEX, "recall(#) of " + count + ", all marked", Scenes.chain(count).andThen(x -> {
                for (int build = 0; build < count; build++) {
                    x.recall(build);
                }
            }), Checks.notBetweenZeroAnd(count - 1), (x, build) -> x.recall(build));
        }
        checks.due("recall(23) of 24", Scenes.line(Scenes.builds(24)).recall(23), 1);
    }

    private void recallMarked() {
        checks.sentence("Promise 21", "Throws `IllegalStateException` if it is marked");
        for (int build : new int[] {0, 23}) {
            checks.refuses(STATE, "recall(" + build + ") again", marked(build), x -> x.recall(build));
        }
        checks.refuses(STATE, "recall(23) again, recalled by its inputs too", marked(0).andThen(x -> x.recall(23)),
                x -> x.recall(23));
        checks.due("recall(23), recalled but not marked", Scenes.line(marked(0)).recall(23), 0);
        checks.due("recall(0), lifted before", Scenes.line(marked(0).andThen(x -> x.lift(0))).recall(0), 24);
    }

    private void liftNumber() {
        checks.sentence("Promise 22", "Returns how many builds are not recalled any more by this.");
        checks.due("lift(0), of a chain of 24", Scenes.line(marked(0)).lift(0), 24);
        checks.due("lift(23), of a chain of 24", Scenes.line(marked(23)).lift(23), 1);
        Buildlots x = Scenes.line(marked(0));
        x.recall(12);
        checks.due("lift(12), with 0 marked", x.lift(12), 0);
        x.recall(12);
        checks.due("lift(0), with 12 marked", x.lift(0), 12);
        checks.due("lift(12), the last mark", x.lift(12), 12);
    }

    private void liftNoBuild() {
        checks.sentence("Promise 22", "Throws `IndexOutOfBoundsException` if there is no such build");
        noBuild("lift(#)", (x, build) -> x.lift(build));
        checks.due("lift(23) of 24", Scenes.line(marked(23)).lift(23), 1);
    }

    private void liftNotMarked() {
        checks.sentence("Promise 22", "Throws `IllegalStateException` if it is not marked");
        checks.refusesEach(STATE, "lift(#), with nothing marked", Scenes.chain(24), List.of(0, 23),
                (x, build) -> x.lift(build));
        checks.refusesEach(STATE, "lift(#), with 11 marked", marked(11), List.of(10, 12, 23),
                (x, build) -> x.lift(build));
        checks.refuses(STATE, "lift(11) again", marked(11).andThen(x -> x.lift(11)), x -> x.lift(11));
    }

    private void isRecalledTrue() {
        checks.sentence("Promise 23", "Returns true if so.");
        for (int mark : new int[] {0, 1, 22, 23}) {
            Buildlots x = Scenes.line(marked(mark));
            for (int build = 0; build < 24; build++) {
                checks.due("isRecalled(" + build + "), with " + mark + " marked", x.isRecalled(build), build >= mark);
            }
            x.lift(mark);
            for (int build = 0; build < 24; build++) {
                checks.due("isRecalled(" + build + "), with " + mark + " lifted", x.isRecalled(build), false);
            }
        }
    }

    private void isRecalledNoBuild() {
        checks.sentence("Promise 23", "Throws `IndexOutOfBoundsException` if there is no such build");
        noBuild("isRecalled(#)", (x, build) -> x.isRecalled(build));
        checks.due("isRecalled(23) of 24", Scenes.line(marked(0)).isRecalled(23), true);
    }

    private void rebuildTrue() {
        checks.sentence("Promise 24", "Returns true if it is that of the build.");
        int[] results = {0, 1, -1, 256, 65536, Integer.MIN_VALUE, Integer.MAX_VALUE};
        Buildlots x = new Buildlots();
        for (int result : results) {
            x.build(0, 0, result);
        }
        for (int build = 0; build < results.length; build++) {
            for (int result : results) {
                checks.due("rebuild(" + build + ", " + result + ")", x.rebuild(build, result),
                        result == results[build]);
            }
        }
    }

    private void rebuildNoBuild() {
        checks.sentence("Promise 24", "Throws `IndexOutOfBoundsException` if there is no such build");
        noBuild("rebuild(#, 100)", (x, build) -> x.rebuild(build, 100));
        checks.refuses(INDEX, "rebuild(24, 100), with 99 results told for 23", told(23, 99, 0),
                x -> x.rebuild(24, 100));
        checks.due("rebuild(23, 123) of 24", Scenes.line(Scenes.builds(24)).rebuild(23, 123), true);
    }

    private void rebuildRoom() {
        checks.sentence("Promise 24", "Throws `IllegalStateException` if 99 results were told for it");
        for (int build : new int[] {0, 23}) {
            int own = 100 + build;
            for (int result : new int[] {own, 7}) {
                String when = ", after results " + result;
                Buildlots almost = Scenes.line(told(build, 98, result));
                checks.due("rebuild as the 99th" + when, almost.rebuild(build, own), true);
                checks.refuses(STATE, "rebuild of its own as the 100th" + when, told(build, 99, result),
                        x -> x.rebuild(build, own));
                checks.refuses(STATE, "rebuild of another as the 100th" + when, told(build, 99, result),
                        x -> x.rebuild(build, 7));
            }
            Buildlots x = Scenes.line(told(build, 99, own));
            checks.due("rebuild of another build", x.rebuild(23 - build, 123 - build), true);
        }
    }

    private void shareNumber() {
        checks.sentence("Promise 25", "Returns the share.");
        checks.due("share(0), of none of 1", Scenes.line(told(0, 1, 7)).share(0), 0.0f);
        checks.due("share(0), of 1 of 1", Scenes.line(told(0, 1, 100)).share(0), 1.0f);
        checks.due("share(23), of none of 99", Scenes.line(told(23, 99, 7)).share(23), 0.0f);
        checks.due("share(23), of 99 of 99", Scenes.line(told(23, 99, 123)).share(23), 1.0f);
        checks.due("share(23), of 1 of 99", Scenes.line(told(23, 98, 7).andThen(x -> x.rebuild(23, 123))).share(23),
                1.0f / 99.0f);
        checks.due("share(23), of 98 of 99", Scenes.line(told(23, 98, 123).andThen(x -> x.rebuild(23, 7))).share(23),
                98.0f / 99.0f);
    }

    private void shareNoBuild() {
        checks.sentence("Promise 25", "Throws `IndexOutOfBoundsException` if there is no such build");
        noBuild("share(#)", (x, build) -> x.share(build));
        checks.refuses(INDEX, "share(24), with 99 results told for 23", told(23, 99, 0), x -> x.share(24));
    }

    private void shareNoResult() {
        checks.sentence("Promise 25", "Throws `NoSuchElementException` if no result was told for it");
        checks.refusesEach(NO_ELEMENT, "share(#), with none told", Scenes.builds(24), List.of(0, 1, 23),
                (x, build) -> x.share(build));
        checks.refusesEach(NO_ELEMENT, "share(#), with 99 told for 12", told(12, 99, 112), List.of(0, 11, 13, 23),
                (x, build) -> x.share(build));
        checks.due("share(12), with 99 told for 12", Scenes.line(told(12, 99, 112)).share(12), 1.0f);
    }
}
