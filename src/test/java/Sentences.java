import java.io.IOException;
import java.nio.charset.StandardCharsets;
import java.nio.file.Files;
import java.nio.file.Path;
import java.util.Arrays;
import java.util.LinkedHashMap;
import java.util.List;
import java.util.Map;
import java.util.function.Consumer;

/**
 * The document's sentences, each with a test of its own. A test names its sentence by quoting it; at the end every
 * word of the document, but for its headings, must have been quoted, so none is without a test.
 */
final class Sentences {
    private static final Path DOCUMENT = Path.of("../shared/DOC.md");
    private static final List<String> HEADINGS = Arrays.asList("====", "II.", "III.", "AGENTS.", "IV.", "The", "constants:");

    private final Check check = new Check();
    private final Map<String, StringBuilder> parts = new LinkedHashMap<>();
    private final Map<String, String> rests = new LinkedHashMap<>();

    Sentences() throws IOException {
        StringBuilder part = new StringBuilder();
        for (String line : Files.readAllLines(DOCUMENT, StandardCharsets.UTF_8)) {
            if (line.startsWith("## ")) {
                part = new StringBuilder();
                parts.put(line.substring(3).replaceAll("^(Promise \\d+):.*", "$1"), part);
            } else if (!line.startsWith("```")) {
                part.append(line).append(' ');
            }
        }
        parts.forEach((name, text) -> rests.put(name, plain(name, text.toString())));
    }

    /** One blank between two words; of a promise what stands behind its call. */
    private static String plain(String name, String text) {
        String one = text.replaceAll("\\s+", " ").trim();
        return name.startsWith("Promise ") ? one.replaceFirst("^`[^`]*`: ", "") : one;
    }

    /** A test of one sentence, or a part of it, of a part of the document. */
    void of(String part, String quote, Consumer<Check> test) {
        String rest = restOf(part);
        int at = rest.indexOf(quote);
        check.is("stands in " + part + ", not yet quoted: " + quote, at >= 0, true);
        if (at >= 0) {
            rests.put(part, rest.substring(0, at) + "\n" + rest.substring(at + quote.length()));
        }
        int asked = check.asked();
        int wrong = check.wrong();
        test.accept(check);
        check.is("has a test: " + quote, check.asked() > asked, true);
        if (check.wrong() > wrong) {
            System.out.println("^ not so: " + part + ": " + quote);
        }
    }

    void of(int promise, String quote, Consumer<Check> test) {
        of("Promise " + promise, quote, test);
    }

    /** What of a part has not been quoted yet. */
    String restOf(String part) {
        return rests.getOrDefault(part, "");
    }

    void end() {
        rests.forEach((part, rest) -> {
            for (String word : rest.trim().split("\\s+")) {
                check.is(part + ", without a test: " + word, word.isEmpty() || HEADINGS.contains(word), true);
            }
        });
        check.is("promises", parts.keySet().stream().filter(p -> p.startsWith("Promise ")).count(), 23);
        check.end();
    }
}
