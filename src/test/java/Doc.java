import java.io.IOException;
import java.io.UncheckedIOException;
import java.nio.file.Files;
import java.nio.file.Path;

/** The document's words: each test names those that it is of, so that none stays without a test. */
final class Doc {
    private static final String TEXT = read();
    private static final boolean[] NAMED = new boolean[TEXT.length()];

    private Doc() {
    }

    /** The document with single blanks, without its headings, its face and what it doesn't promise. */
    private static String read() {
        try {
            String all = Files.readString(Path.of("../shared/DOC.md"));
            return oneBlank(all.replaceAll("(?s)```java.*?```", " ").replaceAll("(?s)## Not promised.*", "")
                .replaceAll("(?m)^#.*$", " ").replaceAll("(?m)^```.*$", " "));
        } catch (IOException e) {
            throw new UncheckedIOException(e);
        }
    }

    private static String oneBlank(String text) {
        return text.replaceAll("\\s+", " ").trim();
    }

    /** A new object for the cases of these words of the document. */
    static Check says(String words) {
        String due = oneBlank(words);
        int from = TEXT.indexOf(due);
        Check.of(due);
        if (from < 0 || from != TEXT.lastIndexOf(due)) {
            Check.same("the document says it once", from < 0 ? "never" : "more often", "once");
        }
        for (int i = from; from >= 0 && i < from + due.length(); i++) {
            NAMED[i] = true;
        }
        return new Check();
    }

    /** The words that no test has named. */
    static void allNamed() {
        Check.of("each of the document's words is named by a test");
        StringBuilder left = new StringBuilder();
        for (int i = 0; i <= NAMED.length; i++) {
            if (i < NAMED.length && !NAMED[i]) {
                left.append(TEXT.charAt(i));
            } else {
                // Marks between two named pieces are no words.
                if (left.toString().matches("(?s).*[A-Za-z0-9].*")) {
                    Check.same("not named", left.toString(), "");
                }
                left.setLength(0);
            }
        }
    }
}
