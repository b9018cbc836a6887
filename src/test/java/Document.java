import java.io.IOException;
import java.nio.file.Files;
import java.nio.file.Path;
import java.util.ArrayList;
import java.util.LinkedHashMap;
import java.util.List;
import java.util.Map;

/** The document by sections and sentences, to find those that no test belongs to. */
final class Document {
    static final String TERMS = "Terms";

    /** A section bears the words of its heading, and a promise only its number: 'Promise 7'. */
    private final Map<String, List<String>> paragraphs = new LinkedHashMap<>();

    Document(Path file) throws IOException {
        List<String> current = new ArrayList<>();
        StringBuilder paragraph = new StringBuilder();
        for (String line : Files.readAllLines(file)) {
            boolean heading = line.startsWith("#");
            if (heading || line.isBlank()) {
                closeParagraph(paragraph, current);
            } else {
                paragraph.append(paragraph.length() == 0 ? "" : " ").append(line.strip());
            }
            if (heading) {
                current = new ArrayList<>();
                paragraphs.put(line.replaceFirst("^#+ +", "").replaceFirst("^(Promise \\d+):.*", "$1"), current);
            }
        }
        closeParagraph(paragraph, current);
    }

    private static void closeParagraph(StringBuilder paragraph, List<String> section) {
        if (paragraph.length() > 0) {
            section.add(paragraph.toString());
        }
        paragraph.setLength(0);
    }

    static String quote(String section, String words) {
        return section + ": \"" + words + "\"";
    }

    boolean holds(String quote) {
        for (Map.Entry<String, List<String>> section : paragraphs.entrySet()) {
            for (String paragraph : section.getValue()) {
                for (String sentence : sentences(paragraph)) {
                    if (quote.equals(quote(section.getKey(), sentence))) {
                        return true;
                    }
                }
            }
        }
        return false;
    }

    /** The sentences of the terms, and what each promise says that is returned and thrown. */
    List<String> quotesThatNeedTests() {
        List<String> quotes = new ArrayList<>();
        for (Map.Entry<String, List<String>> section : paragraphs.entrySet()) {
            for (String paragraph : section.getValue()) {
                if (section.getKey().equals(TERMS) && !paragraph.startsWith("Ahead of the calls")) {
                    addAll(quotes, section.getKey(), paragraph);
                }
                if (section.getKey().startsWith("Promise") && paragraph.matches("(Returns|Throws) .*")) {
                    addAll(quotes, section.getKey(), paragraph);
                }
            }
        }
        return quotes;
    }

    private static void addAll(List<String> quotes, String section, String paragraph) {
        for (String sentence : sentences(paragraph)) {
            quotes.add(quote(section, sentence));
        }
    }

    /** The title of a paragraph, such as 'Days and keys.', and the signature ahead of a promise are no sentences. */
    private static List<String> sentences(String paragraph) {
        List<String> sentences = new ArrayList<>();
        for (String sentence : paragraph.replaceFirst("^`[^`]*`: ", "").split("(?<=\\.) +(?=[A-Z])")) {
            if (sentence.length() >= 20 || sentence.startsWith("Returns")) {
                sentences.add(sentence);
            }
        }
        return sentences;
    }
}
