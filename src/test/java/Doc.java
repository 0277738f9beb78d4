import java.io.IOException;
import java.io.UncheckedIOException;
import java.nio.charset.StandardCharsets;
import java.nio.file.Files;
import java.nio.file.Path;

/**
 * The document, sentence by sentence: a test quotes the words that it tests, and at the end no word of the document
 * may be left that no test has quoted.
 */
final class Doc {
    private static final String TEXT = read();
    private static final boolean[] QUOTED = new boolean[TEXT.length()];
    private static String quote = "";
    private static int askedBefore = 0;

    private Doc() {
    }

    private static String read() {
        try {
            return Files.readString(Path.of("../shared/DOC.md"), StandardCharsets.UTF_8).replace("`", "");
        } catch (IOException e) {
            throw new UncheckedIOException(e);
        }
    }

    /** What the tests that follow test: rows of a promise, without the signs for code. */
    static void promise(int number, String... rows) {
        begin("Promise " + number, rows);
        for (String row : rows) {
            mark("## Promise " + number + ":", row);
        }
    }

    /** What the tests that follow test: sentences of the terms. */
    static void terms(String... sentences) {
        begin("Terms", sentences);
        for (String sentence : sentences) {
            mark("## Terms", sentence);
        }
    }

    /** What the tests that follow test: words ahead of the terms. */
    static void head(String... sentences) {
        begin("What it is", sentences);
        for (String sentence : sentences) {
            mark("## What it is", sentence);
        }
    }

    /** Words that leave something free, so that there is nothing to test. */
    static void leavesFree(String section, String words) {
        mark("## " + section, words);
    }

    private static void begin(String section, String[] words) {
        eachQuoteIsTested();
        quote = section + ", \"" + String.join(" .. ", words) + "\"";
        askedBefore = Due.asked();
        Due.about(quote);
    }

    private static void eachQuoteIsTested() {
        if (!quote.isEmpty() && Due.asked() == askedBefore) {
            Due.same("tests of " + quote, "some", "none");
        }
    }

    private static void mark(String heading, String words) {
        int start = TEXT.indexOf(heading);
        int end = TEXT.indexOf("\n## ", start + 1);
        int at = start < 0 ? -1 : TEXT.indexOf(words, start);
        if (at < 0 || words.isEmpty() || (end >= 0 && at + words.length() > end)) {
            Due.same("words under " + heading, words, "are not there");
            return;
        }
        for (int i = at; i < at + words.length(); i++) {
            QUOTED[i] = true;
        }
    }

    /** All that stands from the first heading on, but the face, what is named free, headings and signatures. */
    static void end() {
        eachQuoteIsTested();
        Due.about("");
        boolean inCode = false;
        int start = TEXT.indexOf("## Terms");
        while (start >= 0 && start < TEXT.indexOf("## Not promised")) {
            int end = TEXT.indexOf('\n', start);
            String line = TEXT.substring(start, end);
            boolean needsNone = line.startsWith("#") || line.startsWith("Ahead of the calls")
                || line.matches("(int|long|boolean|void|FreePort).*\\).*: .*");
            Due.same("not tested of the document", "", needsNone ? afterSignature(start, line) : left(start, end));
            start = end + 1;
        }
    }

    /** A promise's first line tells its signature, which is FaceTest's, and behind it what it does. */
    private static String afterSignature(int start, String line) {
        if (line.startsWith("#") || line.startsWith("Ahead")) {
            return "";
        }
        int colon = line.indexOf(": ", line.indexOf(')'));
        return left(start + colon + 1, start + line.length());
    }

    private static String left(int start, int end) {
        StringBuilder words = new StringBuilder();
        for (int i = start; i < end; i++) {
            words.append(QUOTED[i] ? ' ' : TEXT.charAt(i));
        }
        return words.toString().trim();
    }
}
