/** Promises 21 to 24: tie, pumps, mend, mended. */
public final class TiesTest {
    private static final Due due = new Due("TiesTest");

    public static void main(String[] args) {
        tiesOutOfRange();
        tiesAreFull();
        pumpsByKind();
        pumpsOfWhatIsHeld();
        pumpsOutOfRange();
        mendByKind();
        mendTakesTheLeastRow();
        mendInsideTheSetAlone();
        mendOfFour();
        mendRefused();
        mendedStays();
        due.finish();
    }

    private static void tiesOutOfRange() {
        ForeBook x = Due.withQuestions(2);
        int[][] wrong = {{-1, 1, 0}, {0, -1, 0}, {2, 1, 0}, {0, 2, 0}, {0, 0, 0}, {1, 1, 2}, {0, 1, -1}, {0, 1, 3}};
        for (int[] w : wrong) {
            due.same("tie " + w[0] + " " + w[1] + " " + w[2], x.tie(w[0], w[1], w[2]), ForeBook.RANGE);
        }
        due.same("ties", x.count(2), 0);
        due.same("a tie", x.tie(0, 1, 2), 0);
        due.same("the same again", x.tie(0, 1, 2), 1);
        due.same("back", x.tie(1, 0, 0), 2);
    }

    private static void tiesAreFull() {
        ForeBook x = Due.withQuestions(2);
        x.guess(0, 0, 10, 9);
        x.guess(0, 1, 10, 8);
        for (int i = 0; i < 30; i++) {
            due.same("tie " + i, x.tie(0, 1, i == 29 ? 0 : 2), i);
        }
        due.same("one too many", x.tie(0, 1, 0), ForeBook.FULL);
        due.same("RANGE ahead of FULL", x.tie(0, 0, 0), ForeBook.RANGE);
        due.same("ties", x.count(2), 30);
        due.same("the last bit", x.pumps(0, 10), 1 << 29);
        due.same("mend by all of them", x.mend(0, 10, 3), 1);
        due.mended(x, 8, 8);
    }

    private static void pumpsByKind() {
        int[][] edges = {{0, 5, 5, 0}, {0, 6, 5, 1}, {0, 5, 6, 0}, {1, 5, 5, 0}, {1, 6, 5, 1}, {1, 0, 0, 0},
            {2, 5, 5, 0}, {2, 4, 5, 1}, {2, 10, 10, 0}};
        for (int[] e : edges) {
            ForeBook x = Due.withQuestions(2);
            x.tie(0, 1, e[0]);
            x.guess(0, 0, 10, e[1]);
            x.guess(0, 1, 10, e[2]);
            due.same("pumps of kind " + e[0] + " with " + e[1] + " " + e[2], x.pumps(0, 10), e[3]);
        }
    }

    private static void pumpsOfWhatIsHeld() {
        ForeBook x = Due.withQuestions(3);
        x.tie(0, 1, 1);
        x.tie(1, 2, 2);
        x.tie(2, 0, 0);
        x.guess(0, 0, 12, 9);
        x.guess(0, 1, 13, 2);
        x.guess(0, 2, 14, 3);
        x.guess(0, 1, 15, 9);
        x.guess(0, 2, 16, 10);
        due.same("nothing held", x.pumps(0, 11), 0);
        due.same("one held", x.pumps(0, 12), 0);
        due.same("two held", x.pumps(0, 13), 1);
        due.same("three held", x.pumps(0, 14), 3);
        due.same("the second changed", x.pumps(0, 15), 1);
        due.same("the third changed", x.pumps(0, 16), 1 | 4);
        due.same("on the last of all days", x.pumps(0, 999), 1 | 4);
        due.same("another one", x.pumps(1, 16), 0);
    }

    private static void pumpsOutOfRange() {
        ForeBook x = Due.withQuestions(1);
        int[][] wrong = {{-1, 0}, {20, 0}, {0, -1}, {0, 1000}};
        for (int[] w : wrong) {
            due.same("pumps " + w[0] + " " + w[1], x.pumps(w[0], w[1]), ForeBook.RANGE);
        }
    }

    private static void mendByKind() {
        ForeBook x = Due.withQuestions(2);
        x.guess(0, 0, 10, 9);
        x.guess(0, 1, 10, 7);
        due.same("no ties", x.mend(0, 10, 3), 0);
        due.mended(x, 9, 7);
        x.tie(0, 1, 0);
        due.same("the first makes the other sure", x.mend(0, 10, 3), 2);
        due.mended(x, 7, 7);
        x.tie(1, 0, 1);
        due.same("not both", x.mend(0, 10, 3), 6);
        due.mended(x, 3, 7);
        x.tie(1, 0, 0);
        due.same("alike", x.mend(0, 10, 3), 6);
        due.mended(x, 5, 5);
    }

    private static void mendTakesTheLeastRow() {
        ForeBook x = Due.withQuestions(3);
        x.guess(0, 0, 10, 2);
        x.guess(0, 1, 10, 3);
        x.guess(0, 2, 10, 4);
        x.tie(1, 2, 2);
        due.same("one at least", x.mend(0, 10, 6), 3);
        due.mended(x, -1, 3, 7);
        x.tie(2, 0, 0);
        due.same("and the first above the third", x.mend(0, 10, 7), 5);
        due.mended(x, 4, 6, 4);
    }

    private static void mendInsideTheSetAlone() {
        ForeBook x = Due.withQuestions(3);
        x.guess(0, 0, 10, 9);
        x.guess(0, 1, 10, 9);
        x.guess(0, 2, 10, 9);
        x.tie(0, 1, 1);
        x.tie(1, 2, 1);
        due.same("no tie inside", x.mend(0, 10, 5), 0);
        due.mended(x, 9, -1, 9);
        due.same("one tie inside", x.mend(0, 10, 3), 8);
        due.mended(x, 1, 9, -1);
        due.same("both inside", x.mend(0, 10, 7), 8);
        due.mended(x, 9, 1, 9);
    }

    private static void mendOfFour() {
        ForeBook x = Due.withQuestions(20);
        int[] set = {3, 9, 14, 19};
        int[] held = {0, 10, 10, 0};
        for (int i = 0; i < 4; i++) {
            x.guess(7, set[i], 10, held[i]);
        }
        x.tie(19, 3, 2);
        x.tie(9, 3, 0);
        x.tie(14, 9, 1);
        due.same("four", x.mend(7, 11, 1 << 3 | 1 << 9 | 1 << 14 | 1 << 19), 20);
        due.same("mended 3", x.mended(3), 0);
        due.same("mended 9", x.mended(9), 0);
        due.same("mended 14", x.mended(14), 10);
        due.same("mended 19", x.mended(19), 10);
        due.same("mended 0", x.mended(0), ForeBook.NONE);
    }

    private static void mendRefused() {
        ForeBook x = Due.withQuestions(5);
        due.same("no such guesser", x.mend(-1, 10, 1), ForeBook.RANGE);
        due.same("no such guesser", x.mend(20, 10, 1), ForeBook.RANGE);
        due.same("no such day", x.mend(0, -1, 1), ForeBook.RANGE);
        due.same("no such day", x.mend(0, 1000, 1), ForeBook.RANGE);
        due.same("an empty set", x.mend(0, 10, 0), ForeBook.RANGE);
        due.same("below 0", x.mend(0, 10, -1), ForeBook.RANGE);
        due.same("least of all", x.mend(0, 10, Integer.MIN_VALUE), ForeBook.RANGE);
        due.same("no such question", x.mend(0, 10, 32), ForeBook.RANGE);
        due.same("five, one of them none such", x.mend(0, 10, 32 + 15), ForeBook.RANGE);
        due.same("five", x.mend(0, 10, 31), ForeBook.FULL);
        due.same("nothing held", x.mend(0, 10, 15), ForeBook.STATE);
        x.guess(0, 0, 12, 5);
        due.same("not held yet", x.mend(0, 11, 1), ForeBook.STATE);
        due.same("held", x.mend(0, 12, 1), 0);
        due.same("of one nothing", x.mend(0, 12, 3), ForeBook.STATE);
        due.same("on a day behind all", x.mend(0, 999, 1), 0);
    }

    private static void mendedStays() {
        ForeBook x = Due.withQuestions(3);
        due.mended(x, -1, -1, -1);
        x.guess(0, 0, 10, 9);
        x.guess(0, 1, 10, 7);
        x.mend(0, 10, 3);
        x.mend(0, 10, 0);
        x.mend(0, 9, 3);
        x.mend(0, 10, 7);
        x.guess(0, 0, 11, 2);
        x.tie(0, 1, 1);
        due.mended(x, 9, 7, -1);
        due.same("mended -1", x.mended(-1), ForeBook.NONE);
        due.same("mended 3", x.mended(3), ForeBook.NONE);
        due.same("mended 20", x.mended(20), ForeBook.NONE);
        x.mend(0, 11, 2);
        due.mended(x, -1, 7, -1);
    }
}
