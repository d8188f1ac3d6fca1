import java.io.IOException;
import java.nio.file.Files;
import java.nio.file.Path;
import java.util.Arrays;
import java.util.regex.Matcher;
import java.util.regex.Pattern;

/**
 * Keeps the document's sentences beside the calls that would answer otherwise if they did not hold: each sentence that is
 * quoted must stand in the document, and in the end no word of its terms and promises may be left without a quotation.
 */
final class Edges {
    static final int TERMS = 0;
    private static final int PROMISES = 34;
    private static final Path DOCUMENT = Path.of("../shared/DOC.md");

    /** The terms, and then each promise's own words. */
    private final String[] parts = new String[PROMISES + 1];
    private final boolean[][] quoted = new boolean[PROMISES + 1][];
    private String now = "";
    private int sentences = 0;
    private int checked = 0;
    private int wrong = 0;

    Edges() throws IOException {
        String document = Files.readString(DOCUMENT);
        parts[TERMS] = words(between(document, "## Terms", "Ahead of the calls"));
        for (int p = 1; p <= PROMISES; p++) {
            String part = between(document, "## Promise " + p + ":", "\n## ");
            // Behind the head and the call as it is written.
            parts[p] = words(part.substring(part.indexOf("`:") + 2));
        }
        for (int p = 0; p <= PROMISES; p++) {
            quoted[p] = new boolean[parts[p].length()];
        }
    }

    private static String between(String text, String from, String to) {
        int start = text.indexOf(from);
        int end = start < 0 ? -1 : text.indexOf(to, start + from.length());
        if (end < 0) {
            throw new IllegalStateException("the document has no " + from);
        }
        return text.substring(start + from.length(), end);
    }

    private static String words(String text) {
        return text.replaceAll("(?m)^```.*$", " ").replaceAll("\\s+", " ").trim();
    }

    /** A sentence of a promise, or of the terms (0), and the calls that show that it holds. */
    void of(int promise, String sentence, Runnable calls) {
        sentences++;
        now = (promise == TERMS ? "terms" : "promise " + promise) + ", \"" + sentence + "\"";
        Matcher place = Pattern.compile(Pattern.quote(sentence)).matcher(parts[promise]);
        boolean stands = false;
        while (place.find()) {
            stands = true;
            Arrays.fill(quoted[promise], place.start(), place.end(), true);
        }
        if (!stands) {
            tellWrong("does not stand in the document");
        }
        int before = checked;
        calls.run();
        if (checked == before) {
            tellWrong("has no call");
        }
    }

    void is(String call, long got, long want) {
        checked++;
        if (got != want) {
            tellWrong(call + " answered " + got + ", due is " + want);
        }
    }

    private void tellWrong(String what) {
        wrong++;
        System.out.println("EdgesTest: " + now + ": " + what);
    }

    private void nothingIsLeftOut() {
        for (int p = 0; p <= PROMISES; p++) {
            now = p == TERMS ? "terms" : "promise " + p;
            StringBuilder left = new StringBuilder();
            for (int i = 0; i < parts[p].length(); i++) {
                left.append(quoted[p][i] ? '|' : parts[p].charAt(i));
            }
            for (String words : left.toString().split("\\|+")) {
                if (words.matches(".*[A-Za-z0-9].*")) {
                    tellWrong("no test quotes \"" + words.trim() + "\"");
                }
            }
        }
    }

    void end() {
        nothingIsLeftOut();
        System.out.println("EdgesTest: " + sentences + " sentences, " + checked + " answers, " + wrong + " not as due");
        if (wrong != 0 || checked == 0) {
            System.exit(1);
        }
    }
}
