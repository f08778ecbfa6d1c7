import java.io.IOException;
import java.lang.reflect.Method;
import java.nio.file.Files;
import java.nio.file.Path;
import java.util.ArrayList;
import java.util.List;
import java.util.Map;
import java.util.TreeMap;

/**
 * Each sentence of the document is held by a test: what stands under its headings, but for the public face (FaceTest
 * holds it) and what is not promised, is covered by the quotes of the tests (Holds). A quote is looked for under the
 * heading of the test's promise, then in the parts that all promises share.
 */
public final class SentencesTest {
    private static final Path DOCUMENT = Path.of("..", "shared", "DOC.md");
    private static final List<String> SHARED = List.of("What it is", "Terms");
    private static final List<String> NOT_QUOTED = List.of("The public face", "Not promised");

    /** What stands under one heading, and which of its signs a quote covers. */
    private static final class Part {
        final String text;
        final boolean[] covered;

        Part(String text) {
            this.text = text;
            this.covered = new boolean[text.length()];
        }

        boolean cover(String quote) {
            boolean found = false;
            for (int at = text.indexOf(quote); at >= 0; at = text.indexOf(quote, at + 1)) {
                found = true;
                for (int i = 0; i < quote.length(); i++) {
                    covered[at + i] = true;
                }
            }
            return found;
        }

        List<String> uncovered() {
            List<String> rest = new ArrayList<>();
            StringBuilder run = new StringBuilder();
            for (int i = 0; i <= text.length(); i++) {
                if (i < text.length() && !covered[i]) {
                    run.append(text.charAt(i));
                    continue;
                }
                if (run.chars().anyMatch(Character::isLetterOrDigit)) {
                    rest.add(run.toString().strip());
                }
                run.setLength(0);
            }
            return rest;
        }
    }

    public static void main(String[] args) throws IOException {
        if (!Files.isReadable(DOCUMENT)) {
            System.out.println("SentencesTest: there is no " + DOCUMENT + " to compare with");
            return;
        }
        Checks checks = new Checks("SentencesTest");
        Map<String, Part> parts = partsOf(Files.readAllLines(DOCUMENT));
        for (int promise = 1; promise <= BoundaryTest.PROMISES; promise++) {
            checks.due("the document has promise " + promise, parts.containsKey("Promise " + promise), true);
        }
        for (Method test : BoundaryTest.tests()) {
            coverBy(test, parts, checks);
        }
        parts.forEach((heading, part) -> {
            for (String rest : part.uncovered()) {
                checks.due(heading + ": no test holds \"" + rest + "\"", false, true);
            }
        });
        checks.end();
    }

    private static void coverBy(Method test, Map<String, Part> parts, Checks checks) {
        Holds holds = test.getAnnotation(Holds.class);
        if (holds == null) {
            return;
        }
        Part own = parts.get("Promise " + BoundaryTest.promiseOf(test));
        for (String quote : holds.value()) {
            boolean found = own != null && own.cover(quote);
            for (String heading : SHARED) {
                found = found || parts.containsKey(heading) && parts.get(heading).cover(quote);
            }
            checks.due(test.getName() + ": the document says \"" + quote + "\"", found, true);
        }
    }

    /** By heading ("Promise 3" for "Promise 3: value"), without marks, line ends, and a promise's signature. */
    private static Map<String, Part> partsOf(List<String> lines) {
        Map<String, StringBuilder> texts = new TreeMap<>();
        String heading = "";
        for (String line : lines) {
            if (line.startsWith("#")) {
                heading = line.replaceFirst("^#+ *", "").replaceFirst(":.*", "");
            } else if (!line.startsWith("```")) {
                texts.computeIfAbsent(heading, key -> new StringBuilder()).append(' ').append(line);
            }
        }
        Map<String, Part> parts = new TreeMap<>();
        texts.forEach((name, text) -> {
            if (!name.contains("PieceSwarm") && !NOT_QUOTED.contains(name)) {
                String plain = text.toString().replaceAll("[`=]{4}|`", "").replaceAll("\\s+", " ").strip();
                parts.put(name, new Part(plain.replaceFirst("^(int |boolean )?\\w+\\([^)]*\\): ", "")));
            }
        });
        return parts;
    }
}
