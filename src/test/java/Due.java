import java.io.IOException;
import java.io.UncheckedIOException;
import java.nio.file.Files;
import java.nio.file.Path;

/** Counts answers that are not the ones that are due, for the main methods of the tests. */
final class Due {
    private static final Path DOCUMENT = Path.of("../shared/DOC.md");

    private final String test;
    private String document;
    private String sentence = "";
    private int asked;
    private int wrong;

    Due(String test) {
        this.test = test;
    }

    /**
     * Names the words of the document that the answers from here on hang on. Words that do not stand
     * there are themselves a fault: what is tested must be what is promised.
     */
    void sentence(String words) {
        if (document == null) {
            document = inOneLine(readDocument());
        }
        sentence = "";
        holds("the document says '" + words + "'", document.contains(inOneLine(words)));
        sentence = " ['" + words + "']";
    }

    private static String readDocument() {
        try {
            return Files.readString(DOCUMENT);
        } catch (IOException thrown) {
            throw new UncheckedIOException(thrown);
        }
    }

    private static String inOneLine(String text) {
        return text.replaceAll("\\s+", " ");
    }

    void same(String call, long got, long want) {
        asked++;
        if (got != want) {
            wrong++;
            System.out.println(test + ": " + call + " answered " + got + ", due is " + want + sentence);
        }
    }

    void holds(String what, boolean so) {
        same(what, so ? 1 : 0, 1);
    }

    void rows(ForeBook x, int g, int q, int many, int sum) {
        same("rows(" + g + ", " + q + ", 0)", x.rows(g, q, 0), many);
        same("rows(" + g + ", " + q + ", 1)", x.rows(g, q, 1), sum);
    }

    void mean(ForeBook x, int g, int above, int below) {
        same("mean(" + g + ", 0)", x.mean(g, 0), above);
        same("mean(" + g + ", 1)", x.mean(g, 1), below);
    }

    void together(ForeBook x, int q, int many, int sum) {
        same("together(" + q + ", 0)", x.together(q, 0), many);
        same("together(" + q + ", 1)", x.together(q, 1), sum);
    }

    void luck(ForeBook x, int g, long n, long b, long many) {
        same("luck(" + g + ", 0)", x.luck(g, 0), n);
        same("luck(" + g + ", 1)", x.luck(g, 1), b);
        same("luck(" + g + ", 2)", x.luck(g, 2), many);
    }

    void mended(ForeBook x, int... want) {
        for (int q = 0; q < want.length; q++) {
            same("mended(" + q + ")", x.mended(q), want[q]);
        }
    }

    void finish() {
        System.out.println(test + ": " + asked + " answers, " + wrong + " of them not as due");
        if (wrong != 0 || asked == 0) {
            System.exit(1);
        }
    }

    /** Puts a text on the tape: whole feeds, the last one filled up and cut off again. */
    static void feed(ForeBook book, String text) {
        int start = book.count(3);
        for (int at = 0; at < text.length(); at += 20) {
            feedTwenty(book, text, at);
        }
        book.end(start + text.length());
    }

    /** One feed of the twenty signs of a text from a place on, with zeros behind its end. */
    static int feedTwenty(ForeBook book, String text, int at) {
        return book.feed(four(text, at), four(text, at + 4), four(text, at + 8), four(text, at + 12),
                four(text, at + 16));
    }

    private static int four(String text, int at) {
        int word = 0;
        for (int i = at; i < at + 4; i++) {
            word = word << 8 | (i < text.length() ? text.charAt(i) & 255 : 0);
        }
        return word;
    }

    /** A new book with so many questions that are open on days 10 to 19. */
    static ForeBook withQuestions(int many) {
        ForeBook book = new ForeBook();
        for (int q = 0; q < many; q++) {
            book.question(10, 19);
        }
        return book;
    }

    static int rules(ForeBook book, String text) {
        feed(book, text);
        return book.rules();
    }
}
