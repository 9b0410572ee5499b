import java.io.IOException;
import java.io.UncheckedIOException;
import java.nio.file.Files;
import java.nio.file.Path;

/** Counts answers that are not the ones that are due, for the main methods of the tests. */
final class Due {
    private static final Path DOCUMENT = Path.of("../shared/DOC.md");

    private final String test;
    private String document;
    private String sentence = "";
    private int asked;
    private int wrong;

    Due(String test) {
        this.test = test;
    }

    /**
     * Names the words of the document that the answers from here on hang on. Words that do not stand
     * there are themselves a fault: what is tested must be what is promised.
     */
    void sentence(String words) {
        if (document == null) {
            document = inOneLine(readDocument());
        }
        sentence = "";
        holds("the document says '" + words + "'", document.contains(inOneLine(words)));
        sentence = " ['" + words + "']";
    }

    private static String readDocument() {
        try {
            return Files.readString(DOCUMENT);
        } catch (IOException thrown) {
            throw new UncheckedIOException(thrown);
        }
    }

    private static String inOneLine(String text) {
        return text.replaceAll("\\s+", " ");
    }

    void same(String call, long got, long want) {
        asked++;
        if (got != want) {
            wrong++;
            System.out.println(test + ": " + call + " answered " + got + ", due is " + want + sentence);
        }
    }

    void holds(String what, boolean so) {
        same(what, so ? 1 : 0, 1);
    }

    void finish() {
        System.out.println(test + ": " + asked + " answers, " + wrong + " of them not as due");
        if (wrong != 0 || asked == 0) {
            System.exit(1);
        }
    }

    /** Puts a text on the tape: whole feeds, the last one filled up and cut off again. */
    static void feed(ForeBook book, String text) {
        int start = book.count(3);
        for (int at = 0; at < text.length(); at += 20) {
            feedTwenty(book, text, at);
        }
        book.end(start + text.length());
    }

    /** One feed of the twenty signs of a text from a place on, with zeros behind its end. */
    static int feedTwenty(ForeBook book, String text, int at) {
        return book.feed(four(text, at), four(text, at + 4), four(text, at + 8), four(text, at + 12),
                four(text, at + 16));
    }

    private static int four(String text, int at) {
        int word = 0;
        for (int i = at; i < at + 4; i++) {
            word = word << 8 | (i < text.length() ? text.charAt(i) & 255 : 0);
        }
        return word;
    }

    static int rules(ForeBook book, String text) {
        feed(book, text);
        return book.rules();
    }
}
