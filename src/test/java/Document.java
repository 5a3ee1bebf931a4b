import java.io.IOException;
import java.nio.file.Files;
import java.nio.file.Path;

/**
 * The document, gone through from its first line to its last. Each stretch of it is quoted in its order, with the test that
 * would fail if it did not hold; so no sentence can be left out, and none can change unseen.
 */
final class Document {
    private final String text;
    private int at = 0;

    Document(Path file) throws IOException {
        StringBuilder all = new StringBuilder();
        for (String line : Files.readAllLines(file)) {
            if (!line.startsWith("```")) all.append(line).append(' ');
        }
        text = plain(all.toString());
    }

    private static String plain(String words) {
        return words.replaceAll("\\s+", " ").strip();
    }

    /** A stretch that promises something, with its test. */
    void says(String quote, Runnable test) {
        passes(quote);
        long before = Due.answers();
        test.run();
        Due.holds("there are answers that hold to: " + quote, Due.answers() > before);
    }

    /** A stretch that promises nothing by itself: a heading, or what is told again below. */
    void passes(String quote) {
        String words = plain(quote);
        boolean stands = text.startsWith(words, at);
        Due.holds("the document goes on with: " + words, stands);
        if (stands) go(at + words.length());
    }

    /** What stands ahead of the next such words, which come next then. */
    String upTo(String words) {
        int next = text.indexOf(words, at);
        Due.holds("the document has further on: " + words, next >= at);
        if (next < at) return "";
        String between = text.substring(at, next);
        go(next);
        return between;
    }

    void ends() {
        Due.is("the document's end", at, text.length());
    }

    private void go(int to) {
        at = to;
        while (at < text.length() && text.charAt(at) == ' ') at++;
    }
}
