import java.io.IOException;
import java.nio.file.Files;
import java.nio.file.Path;

/**
 * The document's terms and promises, sentence by sentence: each is quoted ahead of the answers that it asks for. A
 * quotation that does not stand in the document is wrong, and so is a sentence that nobody quotes.
 */
final class Sentences {
    private final Checks checks = new Checks();
    private final String document;
    private final boolean[] quoted;
    private String sentence = "";
    private boolean answered = true;

    Sentences() throws IOException {
        String text = Files.readString(Path.of("../shared/DOC.md"));
        int from = text.indexOf("An object is used for");
        int end = text.indexOf("## Not promised");
        document = text.substring(from, end).replaceAll("\\s+", " ");
        quoted = new boolean[document.length()];
        // LanguageTest asks for the face.
        leaveOut("## The public face ```java .*? ``` ## Terms");
        leaveOut("======== \\d");
        leaveOut("```(text)?");
        leaveOut("## Promise \\d+: [\\w ]+?(?= `)");
        // The titles that the interface bears; where one is more than a title, it is quoted all the same.
        leaveOut("Ahead of the calls .*?(?= Ahead of the calls| ##)");
    }

    private void leaveOut(String pattern) {
        java.util.regex.Matcher m = java.util.regex.Pattern.compile(pattern).matcher(document);
        boolean found = false;
        while (m.find()) {
            found = true;
            java.util.Arrays.fill(quoted, m.start(), m.end(), true);
        }
        checks.that("the document has no " + pattern, found);
    }

    void says(String quotation) {
        checks.that("no answer is asked for: " + sentence, answered);
        sentence = quotation;
        answered = false;
        int at = document.indexOf(quotation);
        checks.that("the document does not say: " + quotation, at >= 0);
        while (at >= 0) {
            java.util.Arrays.fill(quoted, at, at + quotation.length(), true);
            at = document.indexOf(quotation, at + 1);
        }
    }

    void due(String call, long got, long want) {
        answered = true;
        checks.due("\"" + sentence + "\" " + call, got, want);
    }

    void finish() {
        checks.that("no answer is asked for: " + sentence, answered);
        int from = 0;
        for (int i = 0; i <= quoted.length; i++) {
            if (i == quoted.length || quoted[i]) {
                String left = document.substring(from, i);
                checks.that("nobody quotes: " + left, left.isBlank());
                from = i + 1;
            }
        }
        checks.finish();
    }
}
