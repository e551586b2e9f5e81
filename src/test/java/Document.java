import java.io.IOException;
import java.nio.file.Files;
import java.nio.file.Path;
import java.util.ArrayList;
import java.util.List;
import java.util.regex.Matcher;
import java.util.regex.Pattern;

/**
 * The document's terms and promises, and which of their words a test has said. Where the document
 * is not at hand, the sentences are not held against it; their tests are run all the same.
 */
final class Document {
    private static final Path FILE = Path.of("../shared/DOC.md");

    private final List<Part> parts = new ArrayList<>();
    private final String whole;

    private static final class Part {
        private final int promise;
        private final String text;
        private final boolean[] said;

        Part(int promise, String text) {
            this.promise = promise;
            this.text = text.replaceAll("\\s+", " ").trim();
            said = new boolean[this.text.length()];
        }

        boolean tick(String words) {
            int at = text.indexOf(words);
            for (int k = at; at >= 0 && k < at + words.length(); k++) {
                said[k] = true;
            }
            return at >= 0;
        }

        /** Words that no test has said; signs alone are none. */
        String unsaid() {
            StringBuilder left = new StringBuilder();
            for (int k = 0; k < said.length; k++) {
                left.append(said[k] ? '|' : text.charAt(k));
            }
            String words = left.toString().replaceAll("\\|+", "|");
            return Pattern.compile("[A-Za-z0-9]").matcher(words).find()
                    ? (promise == 0 ? "terms" : "promise " + promise) + ": " + words + "\n" : "";
        }
    }

    Document() throws IOException {
        String text = Files.exists(FILE) ? Files.readString(FILE) : "";
        whole = text.replaceAll("\\s+", " ");
        if (whole.isEmpty()) {
            System.out.println("no " + FILE + ": the sentences are not held against it");
        }
        Matcher promise = Pattern.compile("(?s)\n## Promise (\\d+):[^\n]*\n+`[^`]*`:(.*?)(?=\n## )")
                .matcher(text);
        while (promise.find()) {
            parts.add(new Part(Integer.parseInt(promise.group(1)), promise.group(2)));
        }
        Matcher terms = Pattern.compile("(?s)\n## Terms\n(.*?)(?=\n## )").matcher(text);
        if (terms.find()) {
            // These only tell how the face and the terms are put in order.
            parts.add(new Part(0, terms.group(1).replaceAll("Ahead of the calls [^\n]*", "")
                    .replaceAll("```(text)?|The constants:|\n(I|II)\\. ", "\n")));
        }
    }

    /** Whether the words stand under the promise, in the terms, or else anywhere. */
    boolean tick(int promise, String words) {
        for (int number : new int[] {promise, 0}) {
            for (Part part : parts) {
                if (part.promise == number && part.tick(words)) {
                    return true;
                }
            }
        }
        return whole.isEmpty() || whole.contains(words);
    }

    /** All that no test has said. */
    String unsaid() {
        if (whole.isEmpty()) {
            return "";
        }
        StringBuilder left = new StringBuilder();
        for (Part part : parts) {
            left.append(part.unsaid());
        }
        return parts.size() == 30 ? left.toString() : "the document has " + parts.size() + " parts";
    }
}
