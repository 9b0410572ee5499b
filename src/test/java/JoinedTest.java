/** Promises 16 to 20: copies, weight, joined, together, luck. */
public final class JoinedTest {
    private static final Due due = new Due("JoinedTest");

    public static void main(String[] args) {
        copiesByDays();
        copiesOfTheLatestAlone();
        copiesOutOfRange();
        weightsByPast();
        weightsNeverBelowOne();
        weightsOfWhatCounts();
        weightOutOfRange();
        joinedIsTheMiddle();
        joinedBehindSixtyDays();
        joinedByWeights();
        copiersAreLeftOut();
        copiersFromTheirDayOn();
        allLeftOut();
        joinedOutOfRange();
        togetherRows();
        togetherOutOfRange();
        luckCounts();
        luckLeavesDaysAside();
        luckOutOfRange();
        due.finish();
    }

    private static void copiesByDays() {
        ForeBook x = new ForeBook();
        x.question(10, 29);
        x.guess(0, 0, 12, 7);
        x.guess(1, 0, 12, 7);
        due.same("there is no copy", x.copies(1, 0), ForeBook.STATE);
        Due.rules(x, "copy 3 2;");
        due.same("of the same day", x.copies(1, 0), 0);
        x.guess(1, 0, 13, 7);
        due.same("a day before", x.copies(1, 0), 1);
        x.guess(1, 0, 15, 7);
        due.same("three days before", x.copies(1, 0), 2);
        x.guess(1, 0, 15, 7);
        due.same("each guess is one", x.copies(1, 0), 3);
        x.guess(1, 0, 16, 7);
        due.same("four days before", x.copies(1, 0), 3);
        due.same("the other way", x.copies(0, 1), 0);
        x.guess(2, 0, 14, 7);
        due.same("of two at once", x.copies(2, 0), 1);
        due.same("of two at once", x.copies(2, 1), 1);
        x.tell(0, 2, 0);
        due.same("of one that is void", x.copies(1, 0), 3);
    }

    private static void copiesOfTheLatestAlone() {
        ForeBook x = new ForeBook();
        Due.rules(x, "copy 30 1;");
        x.question(10, 29);
        x.question(10, 29);
        x.guess(1, 0, 20, 7);
        x.guess(0, 0, 12, 7);
        due.same("told afterwards, but a day ahead", x.copies(1, 0), 1);
        x.guess(0, 0, 18, 6);
        due.same("not the latest one", x.copies(1, 0), 0);
        x.guess(0, 0, 18, 7);
        due.same("of one day the last", x.copies(1, 0), 1);
        x.guess(0, 0, 20, 3);
        due.same("that day is not ahead", x.copies(1, 0), 1);
        x.guess(1, 1, 20, 7);
        due.same("another question", x.copies(1, 0), 1);
        x.guess(1, 0, 21, 8);
        due.same("another tenth", x.copies(1, 0), 1);
    }

    private static void copiesOutOfRange() {
        ForeBook x = new ForeBook();
        for (int i = 0; i < 2; i++) {
            due.same("themselves", x.copies(5, 5), ForeBook.RANGE);
            due.same("-1", x.copies(-1, 5), ForeBook.RANGE);
            due.same("20", x.copies(20, 5), ForeBook.RANGE);
            due.same("of -1", x.copies(5, -1), ForeBook.RANGE);
            due.same("of 20", x.copies(5, 20), ForeBook.RANGE);
            Due.rules(x, "copy 3 2;");
        }
        due.same("no guesses", x.copies(0, 19), 0);
    }

    private static void weightsByPast() {
        ForeBook x = new ForeBook();
        x.question(10, 12);
        x.question(20, 22);
        x.guess(0, 0, 10, 8);
        x.guess(0, 1, 21, 3);
        x.tell(0, 1, 13);
        x.tell(1, 0, 30);
        due.same("alike", x.weight(0, 999), 1);
        Due.rules(x, "weights past;");
        due.same("on the day it was known", x.weight(0, 13), 1);
        due.same("a day later", x.weight(0, 14), 1 + 100 * (75 - 12) / 75);
        due.same("on the day it was known", x.weight(0, 30), 1 + 100 * (75 - 12) / 75);
        due.same("both", x.weight(0, 31), 1 + 100 * (125 - 30) / 125);
        due.same("nothing guessed", x.weight(1, 999), 1);
        x.tell(1, 2, 0);
        due.same("void", x.weight(0, 31), 1 + 100 * (75 - 12) / 75);
        Due.rules(x, "weights past;missing half;yes 100 81 64 49 36 25 16 9 0 1 0;");
        due.same("all is saved", x.weight(0, 31), 101);
    }

    private static void weightsNeverBelowOne() {
        ForeBook x = new ForeBook();
        Due.rules(x, "weights past;");
        x.question(10, 12);
        x.guess(0, 0, 10, 1);
        x.guess(1, 0, 10, 5);
        x.tell(0, 1, 13);
        due.same("worse than fives", x.weight(0, 14), 1);
        due.same("fives", x.weight(1, 14), 1);
        Due.rules(x, "weights past;yes 0 0 0 0 0 0 0 0 0 0 0;");
        due.same("fives cost nothing", x.weight(0, 14), 1);
    }

    private static void weightsOfWhatCounts() {
        ForeBook x = new ForeBook();
        x.question(10, 12);
        x.guess(0, 0, 11, 10);
        x.tell(0, 1, 13);
        Due.rules(x, "weights past;least 2;");
        due.same("two rows", x.weight(0, 14), 101);
        Due.rules(x, "weights past;least 3;");
        due.same("counts no more", x.weight(0, 14), 1);
        Due.rules(x, "weights past;least 3;missing half;");
        due.same("with half it does", x.weight(0, 14), 1 + 100 * 50 / 75);
    }

    private static void weightOutOfRange() {
        ForeBook x = new ForeBook();
        int[][] wrong = {{-1, 0}, {20, 0}, {0, -1}, {0, 1000}};
        for (int[] w : wrong) {
            due.same("weight " + w[0] + " " + w[1], x.weight(w[0], w[1]), ForeBook.RANGE);
        }
        due.same("weight 19 999", x.weight(19, 999), 1);
    }

    private static void joinedIsTheMiddle() {
        ForeBook x = new ForeBook();
        x.question(10, 69);
        due.same("nobody", x.joined(0, 10), ForeBook.NONE);
        x.guess(0, 0, 11, 9);
        due.same("ahead of it", x.joined(0, 10), ForeBook.NONE);
        due.same("one", x.joined(0, 11), 9);
        x.guess(1, 0, 12, 3);
        due.same("just half is enough", x.joined(0, 12), 3);
        x.guess(2, 0, 13, 6);
        due.same("the middle of three", x.joined(0, 13), 6);
        due.same("the day ahead", x.joined(0, 12), 3);
        x.guess(3, 0, 13, 0);
        due.same("of four", x.joined(0, 13), 3);
        due.same("when it is closed", x.joined(0, 70), 3);
        due.same("on the last of all days", x.joined(0, 999), 3);
        due.same("on the first of all days", x.joined(0, 0), ForeBook.NONE);
        x.tell(0, 2, 0);
        due.same("void", x.joined(0, 13), 3);
    }

    /** The first day behind all on which a question can be open is no other question's first day. */
    private static void joinedBehindSixtyDays() {
        ForeBook x = new ForeBook();
        x.question(10, 69);
        x.question(10, 69);
        x.guess(0, 0, 10, 3);
        x.guess(0, 1, 10, 8);
        due.same("the other's first day", x.joined(1, 10), 8);
        due.same("day 70", x.joined(0, 70), 3);
        x.guess(0, 0, 69, 2);
        due.same("day 70", x.joined(0, 70), 2);
        due.same("the other's first day", x.joined(1, 10), 8);
        for (int q = 2; q < 20; q++) {
            x.question(10, 69);
        }
        x.guess(0, 19, 10, 6);
        due.same("the last question's day 69", x.joined(19, 69), 6);
        due.same("the last question's day 70", x.joined(19, 70), 6);
    }

    private static void joinedByWeights() {
        ForeBook x = new ForeBook();
        Due.rules(x, "weights past;");
        x.question(10, 12);
        x.question(10, 30);
        x.guess(0, 0, 10, 10);
        x.guess(0, 1, 11, 8);
        x.guess(1, 1, 11, 1);
        x.guess(2, 1, 11, 2);
        x.tell(0, 1, 15);
        due.same("known today: alike", x.joined(1, 15), 2);
        due.same("known: 101 to 2", x.joined(1, 16), 8);
        x.rules();
        due.same("alike again", x.joined(1, 16), 2);
    }

    private static void copiersAreLeftOut() {
        ForeBook x = new ForeBook();
        Due.rules(x, "copy 2 2;");
        x.question(10, 30);
        x.question(10, 30);
        x.guess(0, 0, 10, 9);
        x.guess(1, 0, 10, 2);
        x.guess(2, 0, 11, 2);
        due.same("one copy is not enough", x.joined(0, 11), 2);
        x.guess(1, 1, 12, 4);
        x.guess(2, 1, 13, 4);
        due.same("a copier from day 13 on", x.joined(0, 12), 2);
        x.guess(3, 0, 13, 9);
        due.same("left out: 2 9 9", x.joined(0, 13), 9);
        due.same("left out of the other question too", x.joined(1, 13), 4);
        x.question(10, 30);
        x.guess(2, 2, 14, 6);
        x.guess(4, 2, 14, 7);
        due.same("whom they copy holds nothing of it", x.joined(2, 14), 6);
        Due.rules(x, "copy 2 3;");
        due.same("three are asked for", x.joined(0, 13), 2);
    }

    private static void copiersFromTheirDayOn() {
        ForeBook x = new ForeBook();
        Due.rules(x, "copy 5 2;");
        x.question(0, 59);
        x.question(0, 59);
        x.guess(0, 0, 20, 6);
        x.guess(0, 1, 10, 6);
        x.guess(1, 0, 21, 6);
        x.guess(1, 1, 11, 6);
        x.guess(2, 0, 20, 8);
        x.guess(2, 1, 10, 8);
        due.same("told out of order of days: one copy by day 20", x.joined(1, 20), 6);
        due.same("two by day 21", x.joined(1, 21), 6);
        x.guess(3, 1, 21, 8);
        due.same("6 8 8, the copier aside", x.joined(1, 21), 8);
        due.same("with the copier it would be 6 6 8", x.joined(1, 20), 6);
        x.guess(3, 0, 21, 8);
        due.same("6 8 8", x.joined(0, 21), 8);
        due.same("6 8: just half", x.joined(0, 20), 6);
    }

    private static void allLeftOut() {
        ForeBook x = new ForeBook();
        Due.rules(x, "copy 2 1;");
        x.question(10, 30);
        x.guess(0, 0, 10, 9);
        x.guess(1, 0, 11, 9);
        due.same("one copies", x.joined(0, 11), 9);
        x.guess(0, 0, 12, 9);
        due.same("both copy", x.joined(0, 12), ForeBook.NONE);
        due.same("a day ahead", x.joined(0, 11), 9);
        x.tell(0, 1, 30);
        due.same("rows on two days alone", x.together(0, 0), 2);
        due.same("their sum", x.together(0, 1), 2);
    }

    private static void joinedOutOfRange() {
        ForeBook x = new ForeBook();
        due.same("no question", x.joined(0, 0), ForeBook.RANGE);
        x.question(10, 30);
        int[][] wrong = {{-1, 10}, {1, 10}, {0, -1}, {0, 1000}};
        for (int[] w : wrong) {
            due.same("joined " + w[0] + " " + w[1], x.joined(w[0], w[1]), ForeBook.RANGE);
        }
    }

    private static void togetherRows() {
        ForeBook x = new ForeBook();
        x.question(10, 19);
        x.guess(0, 0, 12, 9);
        x.guess(1, 0, 14, 7);
        due.together(x, 0, 0, 0);
        x.tell(0, 1, 16);
        due.together(x, 0, 4, 2 * 1 + 2 * 9);
        x.tell(0, 0, 999);
        due.together(x, 0, 8, 2 * 81 + 6 * 49);
        Due.rules(x, "missing half;");
        due.together(x, 0, 8, 2 * 81 + 6 * 49);
        x.tell(0, 1, 10);
        due.together(x, 0, 0, 0);
        x.tell(0, 2, 0);
        due.together(x, 0, 0, 0);
    }

    private static void togetherOutOfRange() {
        ForeBook x = new ForeBook();
        x.question(10, 19);
        int[][] wrong = {{-1, 0}, {1, 0}, {0, -1}, {0, 2}};
        for (int[] w : wrong) {
            due.same("together " + w[0] + " " + w[1], x.together(w[0], w[1]), ForeBook.RANGE);
        }
    }

    /** Guessers 0, 1, 2 hold 2, 5, 8: joined is 5; of 20 questions 13 are yes, 5 no, one void, one open. */
    private static void luckCounts() {
        ForeBook x = new ForeBook();
        due.luck(x, 0, 0, 0, 1);
        for (int q = 0; q < 20; q++) {
            x.question(10, 10);
            x.guess(0, q, 10, 2);
            x.guess(1, q, 10, 5);
            x.guess(2, q, 10, 8);
        }
        for (int q = 0; q < 18; q++) {
            x.tell(q, q < 13 ? 1 : 0, 11);
        }
        x.tell(18, 2, 0);
        due.luck(x, 0, 18, 5, 262144 - 1 - 18 - 153 - 816 - 3060);
        due.luck(x, 1, 0, 0, 1);
        due.luck(x, 2, 18, 13, 8568 + 3060 + 816 + 153 + 18 + 1);
        x.tell(18, 1, 11);
        x.tell(19, 1, 11);
        for (int q = 13; q < 18; q++) {
            x.tell(q, 1, 11);
        }
        due.luck(x, 0, 20, 0, 1048576);
        due.luck(x, 2, 20, 20, 1);
        Due.rules(x, "least 2;");
        due.luck(x, 2, 0, 0, 1);
    }

    private static void luckLeavesDaysAside() {
        ForeBook x = new ForeBook();
        x.question(10, 19);
        x.guess(0, 0, 12, 9);
        x.guess(1, 0, 10, 5);
        x.guess(1, 0, 12, 9);
        x.tell(0, 1, 20);
        due.luck(x, 0, 0, 0, 1);
        due.luck(x, 1, 0, 0, 1);
        Due.rules(x, "missing half;");
        due.luck(x, 0, 0, 0, 1);
        x.tell(0, 3, 0);
        x.guess(2, 0, 19, 10);
        x.guess(3, 0, 19, 10);
        x.guess(4, 0, 19, 10);
        x.tell(0, 1, 20);
        due.luck(x, 2, 1, 0, 2);
        x.rules();
        due.luck(x, 2, 0, 0, 1);
        due.luck(x, 0, 1, 0, 2);
    }

    private static void luckOutOfRange() {
        ForeBook x = new ForeBook();
        int[][] wrong = {{-1, 0}, {20, 0}, {0, -1}, {0, 3}};
        for (int[] w : wrong) {
            due.same("luck " + w[0] + " " + w[1], x.luck(w[0], w[1]), ForeBook.RANGE);
        }
    }
}
