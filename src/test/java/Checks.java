import java.util.ArrayList;
import java.util.LinkedHashMap;
import java.util.List;
import java.util.Map;
import java.util.function.Consumer;
import java.util.function.Function;

/** Counts answers that are not due, and tells each of them. */
final class Checks {
    /** Besides the rim of int, numbers that a shift, a byte, a short or a char would wrap into a range near 0. */
    private static final int[] FAR_NUMBERS = {
        -1, -2, -24, -31, -32, -256, -65536, Integer.MIN_VALUE, Integer.MIN_VALUE + 1,
        31, 32, 33, 64, 256, 257, 65536, 65537, 1 << 24, 1 << 30, Integer.MAX_VALUE - 1, Integer.MAX_VALUE,
    };

    private final String title;
    private final Map<String, Integer> checksBySentence = new LinkedHashMap<>();
    private String place = "";
    private int checks;
    private int wrong;

    Checks(String title) {
        this.title = title;
    }

    void promise(int number) {
        place = "promise " + number;
    }

    /** What is checked from here on belongs to this sentence of this section of the document. */
    void sentence(String section, String words) {
        place = Document.quote(section, words);
        checksBySentence.putIfAbsent(place, 0);
    }

    Map<String, Integer> checksBySentence() {
        return checksBySentence;
    }

    void due(String call, Object got, Object want) {
        checks++;
        checksBySentence.computeIfPresent(place, (quote, count) -> count + 1);
        if (!want.equals(got)) {
            wrong++;
            System.out.println(title + ", " + place + ": " + call + " answered " + got + ", due is " + want);
        }
    }

    interface Numbered {
        Object on(Buildlots line, int number);
    }

    /** The call must throw exactly this exception on the line that the scene makes, and leave no trace in it. */
    void refuses(Class<? extends RuntimeException> exception, String call, Consumer<Buildlots> scene,
            Function<Buildlots, Object> doomed) {
        refuses(exception, call, scene, Trace.of(scene), doomed);
    }

    /** The same for the call with each of these numbers; the text of the call has a # where they stand. */
    void refusesEach(Class<? extends RuntimeException> exception, String call, Consumer<Buildlots> scene,
            List<Integer> numbers, Numbered doomed) {
        String untried = Trace.of(scene);
        for (int number : numbers) {
            refuses(exception, call.replace("#", "" + number), scene, untried, x -> doomed.on(x, number));
        }
    }

    private void refuses(Class<? extends RuntimeException> exception, String call, Consumer<Buildlots> scene,
            String untried, Function<Buildlots, Object> doomed) {
        Buildlots tried = new Buildlots();
        scene.accept(tried);
        due(call, answer(tried, doomed), "throws " + exception.getName());
        due("what can be seen after " + call, Trace.of(scene.andThen(x -> answer(x, doomed))), untried);
    }

    void end() {
        System.out.println(title + ": " + checks + " checks, " + wrong + " wrong");
        if (wrong != 0 || checks == 0) {
            System.exit(1);
        }
    }

    static Object answer(Buildlots line, Function<Buildlots, Object> call) {
        try {
            return call.apply(line);
        } catch (RuntimeException e) {
            return "throws " + e.getClass().getName();
        }
    }

    /** Numbers that are not between these two: next to them, and far off. */
    static List<Integer> notBetween(int least, int greatest) {
        List<Integer> numbers = new ArrayList<>();
        numbers.add(least - 1);
        numbers.add(greatest + 1);
        for (int number : FAR_NUMBERS) {
            if ((number < least || number > greatest) && !numbers.contains(number)) {
                numbers.add(number);
            }
        }
        return numbers;
    }

    static List<Integer> notBetweenZeroAnd(int last) {
        return notBetween(0, last);
    }
}
