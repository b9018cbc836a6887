import java.util.ArrayList;
import java.util.List;
import java.util.NoSuchElementException;
import java.util.function.Consumer;

/** The boundary cases of promises 8 to 13: a method for each sentence of the document that names one. */
final class BuildBounds {
    private static final Class<IllegalArgumentException> ARGUMENT = IllegalArgumentException.class;
    private static final Class<IllegalStateException> STATE = IllegalStateException.class;
    private static final Class<IndexOutOfBoundsException> INDEX = IndexOutOfBoundsException.class;
    private static final Class<UnsupportedOperationException> UNSUPPORTED = UnsupportedOperationException.class;
    private static final Class<NoSuchElementException> NO_ELEMENT = NoSuchElementException.class;
    private static final int ALL = (1 << 24) - 1;

    private final Checks checks;

    private BuildBounds(Checks checks) {
        this.checks = checks;
    }

    static void check(Checks checks) {
        BuildBounds bounds = new BuildBounds(checks);
        bounds.buildNumber();
        bounds.buildArguments();
        bounds.buildRecalledInput();
        bounds.buildRoom();
        bounds.nameOfName();
        bounds.nameOfNoBuild();
        bounds.versionNumber();
        bounds.versionNoBuild();
        bounds.usesTrue();
        bounds.usesNoBuild();
        bounds.usedNumber();
        bounds.usedNoBuild();
        bounds.newestOfTrusted();
        bounds.newestNumber();
        bounds.newestNoName();
        bounds.newestNone();
    }

    private void buildNumber() {
        checks.sentence("Promise 8", "Returns the number of the build.");
        Buildlots x = new Buildlots();
        for (int build = 0; build < 24; build++) {
            Checks.answer(x, y -> y.build(5, 0, 0));
            checks.due("build as number " + build + ", after a refused one", x.build(0, 0, 0), build);
        }
    }

    private void buildArguments() {
        checks.sentence("Promise 8",
                "Throws `IllegalArgumentException` if there is no such name, or the set names what there is not");
        checks.refusesEach(ARGUMENT, "build(#, 0, 0)", Scenes.builds(2), Checks.notBetweenZeroAnd(4),
                (x, name) -> x.build(name, 0, 0));
        checks.due("build(0, 0, 0)", new Buildlots().build(0, 0, 0), 0);
        checks.due("build(4, 0, 0)", new Buildlots().build(4, 0, 0), 0);
        for (int count : new int[] {0, 1, 2, 23, 24}) {
            List<Integer> sets = new ArrayList<>();
            for (int bit = count; bit < 32; bit++) {
                sets.add(1 << bit);
            }
            // the sign and what wraps: a set with all builds and one that is not, and all that a set can name
            sets.addAll(List.of(Integer.MIN_VALUE + (1 << count) - 1, -1, Integer.MAX_VALUE, (2 << count) - 1));
            checks.refusesEach(ARGUMENT, "build(0, #, 0) after " + count, Scenes.builds(count), sets,
                    (x, inputs) -> x.build(0, inputs, 0));
        }
        for (int count : new int[] {0, 1, 2, 23}) {
            Buildlots x = Scenes.line(Scenes.builds(count));
            checks.due("build(0, all, 0) after " + count, x.build(0, (1 << count) - 1, 0), count);
        }
    }

    private void buildRecalledInput() {
        checks.sentence("Promise 8", "Throws `UnsupportedOperationException` if an input is recalled");
        Consumer<Buildlots> first = Scenes.chain(23).andThen(x -> x.recall(0));
        checks.refusesEach(UNSUPPORTED, "build(0, #, 0), of a chain whose first one is marked", first,
                List.of(1, 2, 1 << 22, (1 << 23) - 1), (x, inputs) -> x.build(0, inputs, 0));
        checks.due("build(0, 0, 0), beside a chain that is recalled", Scenes.line(first).build(0, 0, 0), 23);
        Consumer<Buildlots> last = Scenes.chain(23).andThen(x -> x.recall(22));
        checks.refusesEach(UNSUPPORTED, "build(0, #, 0), of a chain whose last one is marked", last,
                List.of(1 << 22, 1 + (1 << 22), (1 << 23) - 1), (x, inputs) -> x.build(0, inputs, 0));
        Buildlots x = Scenes.line(last);
        checks.due("build(0, (1 << 22) - 1, 0), of the rest", x.build(0, (1 << 22) - 1, 0), 23);
        Buildlots y = Scenes.line(first);
        y.lift(0);
        checks.due("build(0, (1 << 23) - 1, 0), of what was lifted", y.build(0, (1 << 23) - 1, 0), 23);
        checks.refuses(UNSUPPORTED, "build(0, 1, 0), of the only one", Scenes.builds(1).andThen(z -> z.recall(0)),
                z -> z.build(0, 1, 0));
    }

    private void buildRoom() {
        checks.sentence("Promise 8", "Throws `IllegalStateException` if there are 24 builds");
        checks.due("build(0, 0, 0) as the 24th", Scenes.line(Scenes.builds(23)).build(0, 0, 0), 23);
        checks.refusesEach(STATE, "build(0, #, 0) as the 25th", Scenes.builds(24), List.of(0, 1, 1 << 23, ALL),
                (x, inputs) -> x.build(0, inputs, 0));
        checks.refusesEach(STATE, "build(#, 0, 0) as the 25th", Scenes.builds(24), List.of(0, 1, 2, 3, 4),
                (x, name) -> x.build(name, 0, 0));
        checks.refuses(STATE, "build(0, 0, 0) as the 25th, with all recalled",
                Scenes.chain(24).andThen(x -> x.recall(0)), x -> x.build(0, 0, 0));
    }

    private void nameOfName() {
        checks.sentence("Promise 9", "Returns the name.");
        Buildlots x = Scenes.line(Scenes.builds(24));
        for (int build = 0; build < 24; build++) {
            checks.due("nameOf(" + build + ")", x.nameOf(build), build % 5);
        }
    }

    private void noBuild(String call, Checks.Numbered ask) {
        for (int count : new int[] {0, 1, 24}) {
            checks.refusesEach(INDEX, call + " of " + count, Scenes.builds(count),
                    Checks.notBetweenZeroAnd(count - 1), ask);
        }
    }

    private void nameOfNoBuild() {
        checks.sentence("Promise 9", "Throws `IndexOutOfBoundsException` if there is no such build");
        noBuild("nameOf(#)", (x, build) -> x.nameOf(build));
        checks.due("nameOf(23) of 24", Scenes.line(Scenes.builds(24)).nameOf(23), 3);
    }

    private void versionNumber() {
        checks.sentence("Promise 10", "Returns the version.");
        Buildlots x = new Buildlots();
        for (int build = 0; build < 24; build++) {
            x.build(4, 0, 0);
            checks.due("version(" + build + "), all of a name", x.version(build), build + 1);
        }
        Buildlots y = Scenes.line(Scenes.builds(24));
        checks.due("version(0), of five names", y.version(0), 1);
        checks.due("version(4), of five names", y.version(4), 1);
        checks.due("version(5), of five names", y.version(5), 2);
        checks.due("version(23), of five names", y.version(23), 5);
    }

    private void versionNoBuild() {
        checks.sentence("Promise 10", "Throws `IndexOutOfBoundsException` if there is no such build");
        noBuild("version(#)", (x, build) -> x.version(build));
        checks.due("version(23) of 24", Scenes.line(Scenes.builds(24)).version(23), 5);
    }

    private void usesTrue() {
        checks.sentence("Promise 11", "Returns true if so.");
        Buildlots x = Scenes.line(Scenes.chain(24));
        checks.due("uses(23, 0), at the ends of a chain", x.uses(23, 0), true);
        checks.due("uses(0, 23), against it", x.uses(0, 23), false);
        checks.due("uses(1, 0), its input", x.uses(1, 0), true);
        checks.due("uses(0, 0), itself", x.uses(0, 0), false);
        checks.due("uses(23, 23), itself", x.uses(23, 23), false);
        Buildlots y = Scenes.line(Scenes.builds(24));
        checks.due("uses(23, 22), without inputs", y.uses(23, 22), false);
    }

    private void usesNoBuild() {
        checks.sentence("Promise 11", "Throws `IndexOutOfBoundsException` if there is no such build, for either");
        noBuild("uses(#, 0)", (x, build) -> x.uses(build, 0));
        noBuild("uses(0, #)", (x, build) -> x.uses(0, build));
        noBuild("uses(#, #)", (x, build) -> x.uses(build, build));
        checks.due("uses(23, 22) of 24", Scenes.line(Scenes.chain(24)).uses(23, 22), true);
    }

    private void usedNumber() {
        checks.sentence("Promise 12", "Returns the number of builds.");
        Buildlots x = Scenes.line(Scenes.chain(24));
        checks.due("used(0), first of a chain", x.used(0), 0);
        checks.due("used(1), next in a chain", x.used(1), 1);
        checks.due("used(23), last of a chain", x.used(23), 23);
        checks.due("used(23), without inputs", Scenes.line(Scenes.builds(24)).used(23), 0);
        Buildlots y = Scenes.line(Scenes.builds(23));
        y.build(0, (1 << 23) - 1, 0);
        checks.due("used(23), made from all", y.used(23), 23);
    }

    private void usedNoBuild() {
        checks.sentence("Promise 12", "Throws `IndexOutOfBoundsException` if there is no such build");
        noBuild("used(#)", (x, build) -> x.used(build));
        checks.due("used(23) of 24", Scenes.line(Scenes.chain(24)).used(23), 23);
    }

    private void newestOfTrusted() {
        checks.sentence("Promise 13",
                "Returns the build of a name with the greatest version among those that are trusted and not recalled.");
        Buildlots x = Scenes.line(Scenes.trusted(24));
        checks.due("newest(0), of the builds 0, 5, 10, 15 and 20", x.newest(0), 20);
        x.recall(20);
        checks.due("newest(0), with 20 recalled", x.newest(0), 15);
        checks.due("newest(4), with 20 recalled", x.newest(4), 19);
        x.recall(5);
        checks.due("newest(0), with 5 and what uses it recalled", x.newest(0), 0);
        checks.due("newest(4), with 5 and what uses it recalled", x.newest(4), 4);
        x.lift(5);
        checks.due("newest(0), with 5 lifted", x.newest(0), 15);
        x.lift(20);
        checks.due("newest(0), with both lifted", x.newest(0), 20);
        Buildlots y = Scenes.line(Scenes.keys(2).andThen(Scenes.chain(6)));
        y.attest(0, 0);
        y.attest(0, 1);
        y.attest(5, 0);
        checks.due("newest(0), with half of what 5 needs", y.newest(0), 0);
        y.attest(5, 1);
        checks.due("newest(0), with all of it", y.newest(0), 5);
    }

    private void newestNumber() {
        checks.sentence("Promise 13", "Returns the number of the build.");
        checks.due("newest(0), of one build", Scenes.line(Scenes.trusted(1)).newest(0), 0);
        Buildlots x = Scenes.line(Scenes.trusted(24));
        for (int name = 0; name < 5; name++) {
            checks.due("newest(" + name + "), of 24 builds", x.newest(name), name < 4 ? 20 + name : 19);
        }
    }

    private void newestNoName() {
        checks.sentence("Promise 13", "Throws `IllegalArgumentException` if there is no such name");
        for (int count : new int[] {0, 24}) {
            checks.refusesEach(ARGUMENT, "newest(#) of " + count, Scenes.trusted(count), Checks.notBetweenZeroAnd(4),
                    (x, name) -> x.newest(name));
        }
        checks.due("newest(4) of 24", Scenes.line(Scenes.trusted(24)).newest(4), 19);
    }

    private void newestNone() {
        checks.sentence("Promise 13", "Throws `NoSuchElementException` if there is none");
        List<Integer> names = List.of(0, 1, 2, 3, 4);
        checks.refusesEach(NO_ELEMENT, "newest(#), without builds", Scenes.keys(2), names, (x, name) -> x.newest(name));
        checks.refusesEach(NO_ELEMENT, "newest(#), with builds of another name", Scenes.trusted(1),
                List.of(1, 2, 3, 4), (x, name) -> x.newest(name));
        checks.refusesEach(NO_ELEMENT, "newest(#), with nothing trusted", Scenes.builds(24), names,
                (x, name) -> x.newest(name));
        checks.refusesEach(NO_ELEMENT, "newest(#), with all recalled", Scenes.trusted(24).andThen(x -> x.recall(0)),
                names, (x, name) -> x.newest(name));
        checks.refusesEach(NO_ELEMENT, "newest(#), a day past the keys",
                Scenes.trusted(24).andThen(Scenes.onDay(11)), names, (x, name) -> x.newest(name));
        checks.refuses(NO_ELEMENT, "newest(0), one recalled and one not trusted", Scenes.trusted(6).andThen(x -> {
            x.build(0, 0, 0);
            x.recall(0);
        }), x -> x.newest(0));
    }
}
