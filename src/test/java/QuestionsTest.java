/** Promises 7 to 10, 25 and 26: question, tell, guess, holds, about, count. */
public final class QuestionsTest {
    private static final Due due = new Due("QuestionsTest");

    public static void main(String[] args) {
        questionsAndTheirDays();
        questionsAreFull();
        tellAndTellAgain();
        tellOutOfRange();
        guessOutOfRange();
        guessNotAsThingsAre();
        guessesAreFull();
        latestGuessIsHeld();
        holdsOutOfRange();
        aboutAQuestion();
        counts();
        due.finish();
    }

    private static void questionsAndTheirDays() {
        ForeBook x = new ForeBook();
        due.same("first day alone", x.question(0, 0), 0);
        due.same("last day alone", x.question(999, 999), 1);
        due.same("60 days", x.question(10, 69), 2);
        due.same("61 days", x.question(10, 70), ForeBook.RANGE);
        due.same("no day", x.question(10, 9), ForeBook.RANGE);
        due.same("ahead of all days", x.question(-1, 5), ForeBook.RANGE);
        due.same("behind all days", x.question(990, 1000), ForeBook.RANGE);
        due.same("wrapping", x.question(Integer.MIN_VALUE, Integer.MAX_VALUE), ForeBook.RANGE);
        due.same("wrapping", x.question(Integer.MAX_VALUE, Integer.MIN_VALUE), ForeBook.RANGE);
        due.same("last 60", x.question(940, 999), 3);
        due.same("questions", x.count(0), 4);
    }

    private static void questionsAreFull() {
        ForeBook x = new ForeBook();
        for (int q = 0; q < 20; q++) {
            due.same("question " + q, x.question(q, q + 9), q);
        }
        due.same("one too many", x.question(0, 9), ForeBook.FULL);
        due.same("RANGE ahead of FULL", x.question(9, 0), ForeBook.RANGE);
        due.same("questions", x.count(0), 20);
    }

    private static void tellAndTellAgain() {
        ForeBook x = new ForeBook();
        x.question(10, 19);
        due.same("yes", x.tell(0, 1, 10), 3);
        due.same("known", x.about(0, 3), 10);
        due.same("no", x.tell(0, 0, 999), 1);
        due.same("known", x.about(0, 3), 999);
        due.same("void", x.tell(0, 2, 0), 0);
        due.same("known", x.about(0, 3), ForeBook.NONE);
        due.same("not told", x.tell(0, 3, 0), 2);
        due.same("not told again", x.tell(0, 3, 0), 3);
        due.same("how", x.about(0, 2), 3);
    }

    private static void tellOutOfRange() {
        ForeBook x = new ForeBook();
        due.same("no question", x.tell(0, 2, 0), ForeBook.RANGE);
        x.question(10, 19);
        int[][] wrong = {{-1, 1, 15}, {1, 1, 15}, {0, -1, 0}, {0, 4, 0}, {0, 4, 15}, {0, 1, 9}, {0, 0, 9},
            {0, 1, 1000}, {0, 0, -1}, {0, 2, 15}, {0, 3, 15}, {0, 2, -1}, {0, 1, 0}};
        for (int[] w : wrong) {
            due.same("tell " + w[0] + " " + w[1] + " " + w[2], x.tell(w[0], w[1], w[2]), ForeBook.RANGE);
        }
        due.same("untold still", x.about(0, 2), 3);
        x.question(0, 5);
        due.same("known on day 0", x.tell(1, 1, 0), 3);
        due.same("known", x.about(1, 3), 0);
    }

    private static void guessOutOfRange() {
        ForeBook x = new ForeBook();
        due.same("no question", x.guess(0, 0, 10, 5), ForeBook.RANGE);
        x.question(10, 19);
        int[][] wrong = {{-1, 0, 10, 5}, {20, 0, 10, 5}, {0, -1, 10, 5}, {0, 1, 10, 5}, {0, 0, 9, 5},
            {0, 0, 20, 5}, {0, 0, 10, -1}, {0, 0, 10, 11}};
        for (int told = 0; told < 2; told++) {
            for (int[] w : wrong) {
                due.same("guess " + w[0] + " " + w[1] + " " + w[2] + " " + w[3],
                        x.guess(w[0], w[1], w[2], w[3]), ForeBook.RANGE);
            }
            x.tell(0, 2, 0);
        }
        due.same("guesses", x.count(1), 0);
    }

    private static void guessNotAsThingsAre() {
        ForeBook x = new ForeBook();
        x.question(10, 19);
        x.question(10, 19);
        due.same("guess", x.guess(0, 0, 12, 5), 0);
        due.same("an earlier day", x.guess(0, 0, 11, 5), ForeBook.STATE);
        due.same("the same day", x.guess(0, 0, 12, 6), 1);
        due.same("another guesser", x.guess(19, 0, 11, 5), 2);
        due.same("another question", x.guess(0, 1, 11, 5), 3);
        for (int how = 0; how < 3; how++) {
            x.tell(0, how, how == 2 ? 0 : 15);
            due.same("guess on one told " + how, x.guess(0, 0, 13, 5), ForeBook.STATE);
        }
        x.tell(0, 3, 0);
        due.same("not told any more", x.guess(0, 0, 13, 5), 4);
        due.same("guesses", x.count(1), 5);
    }

    private static void guessesAreFull() {
        ForeBook x = new ForeBook();
        x.question(10, 19);
        x.question(10, 19);
        x.tell(1, 2, 0);
        for (int i = 0; i < 300; i++) {
            due.same("guess " + i, x.guess(i % 20, 0, 15, i % 11), i);
        }
        due.same("one too many", x.guess(0, 0, 15, 5), ForeBook.FULL);
        due.same("RANGE ahead of FULL", x.guess(0, 0, 15, 11), ForeBook.RANGE);
        due.same("STATE ahead of FULL", x.guess(0, 0, 14, 5), ForeBook.STATE);
        due.same("STATE ahead of FULL", x.guess(0, 1, 14, 5), ForeBook.STATE);
        due.same("guesses", x.count(1), 300);
        due.same("guesses on it", x.about(0, 4), 300);
        due.same("held", x.holds(19, 0, 999), 299 % 11);
    }

    private static void latestGuessIsHeld() {
        ForeBook x = new ForeBook();
        x.question(10, 19);
        x.guess(3, 0, 11, 0);
        x.guess(3, 0, 13, 7);
        x.guess(3, 0, 13, 10);
        x.guess(3, 0, 19, 2);
        int[] held = {-1, 0, 0, 10, 10, 10, 10, 10, 10, 2};
        for (int day = 10; day <= 19; day++) {
            due.same("held on " + day, x.holds(3, 0, day), held[day - 10]);
        }
        due.same("on the first of all days", x.holds(3, 0, 0), ForeBook.NONE);
        due.same("on the last of all days", x.holds(3, 0, 999), 2);
        due.same("another one", x.holds(4, 0, 15), ForeBook.NONE);
        x.tell(0, 2, 0);
        due.same("of one that is void", x.holds(3, 0, 15), 10);
    }

    private static void holdsOutOfRange() {
        ForeBook x = new ForeBook();
        x.question(10, 19);
        int[][] wrong = {{-1, 0, 10}, {20, 0, 10}, {0, -1, 10}, {0, 1, 10}, {0, 0, -1}, {0, 0, 1000}};
        for (int[] w : wrong) {
            due.same("holds " + w[0] + " " + w[1] + " " + w[2], x.holds(w[0], w[1], w[2]), ForeBook.RANGE);
        }
    }

    private static void aboutAQuestion() {
        ForeBook x = new ForeBook();
        due.same("of none", x.about(0, 0), ForeBook.NONE);
        x.question(10, 19);
        x.question(30, 31);
        x.guess(0, 1, 31, 5);
        x.guess(1, 1, 30, 5);
        x.tell(1, 1, 40);
        int[][] want = {{10, 19, 3, -1, 0}, {30, 31, 1, 40, 2}};
        for (int q = 0; q < 2; q++) {
            for (int what = 0; what < 5; what++) {
                due.same("about " + q + " " + what, x.about(q, what), want[q][what]);
            }
            due.same("about " + q + " 5", x.about(q, 5), ForeBook.NONE);
            due.same("about " + q + " -1", x.about(q, -1), ForeBook.NONE);
        }
        due.same("about 2", x.about(2, 0), ForeBook.NONE);
        due.same("about -1", x.about(-1, 0), ForeBook.NONE);
    }

    private static void counts() {
        ForeBook x = new ForeBook();
        x.question(10, 19);
        x.question(10, 19);
        x.question(10, 19);
        x.guess(0, 0, 10, 5);
        x.guess(1, 0, 10, 5);
        x.guess(2, 1, 10, 5);
        x.guess(2, 0, 14, 5);
        x.tie(0, 1, 0);
        x.feed(0, 0, 0, 0, 0);
        x.end(11);
        x.tell(0, 1, 14);
        int[] want = {3, 4, 1, 11, 2};
        for (int what = 0; what < 5; what++) {
            due.same("count " + what, x.count(what), want[what]);
        }
        due.same("count 5", x.count(5), ForeBook.NONE);
        due.same("count -1", x.count(-1), ForeBook.NONE);
        x.tell(0, 2, 0);
        due.same("with a mean, once it is void", x.count(4), 0);
    }
}
