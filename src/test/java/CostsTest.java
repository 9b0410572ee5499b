/** Promises 11 to 15: rows, mean, ranked, pays, honest. */
public final class CostsTest {
    private static final Due due = new Due("CostsTest");

    public static void main(String[] args) {
        rowsGoUpToTheDayItWasKnown();
        rowsOfWhatIsNotSettled();
        rowsWithHalf();
        rowsOutOfRange();
        rowsFollowTheRules();
        leastDecidesWhatCounts();
        meanIsCut();
        meanOutOfRange();
        rankedByMeanThenNumber();
        whatPays();
        honestTables();
        due.finish();
    }

    private static void rowsGoUpToTheDayItWasKnown() {
        ForeBook x = new ForeBook();
        x.question(10, 19);
        x.guess(0, 0, 12, 9);
        x.guess(0, 0, 15, 3);
        x.guess(0, 0, 15, 6);
        x.tell(0, 1, 10);
        due.rows(x, 0, 0, 0, 0);
        x.tell(0, 1, 12);
        due.rows(x, 0, 0, 0, 0);
        x.tell(0, 1, 13);
        due.rows(x, 0, 0, 1, 1);
        x.tell(0, 1, 16);
        due.rows(x, 0, 0, 4, 3 + 16);
        x.tell(0, 1, 19);
        due.rows(x, 0, 0, 7, 3 + 4 * 16);
        x.tell(0, 1, 20);
        due.rows(x, 0, 0, 8, 3 + 5 * 16);
        x.tell(0, 1, 999);
        due.rows(x, 0, 0, 8, 3 + 5 * 16);
        x.tell(0, 0, 16);
        due.rows(x, 0, 0, 4, 3 * 81 + 36);
        due.rows(x, 1, 0, 0, 0);
    }

    private static void rowsOfWhatIsNotSettled() {
        ForeBook x = new ForeBook();
        x.question(10, 19);
        x.guess(0, 0, 12, 9);
        due.rows(x, 0, 0, 0, 0);
        x.tell(0, 1, 19);
        due.rows(x, 0, 0, 7, 7);
        x.tell(0, 2, 0);
        due.rows(x, 0, 0, 0, 0);
        x.tell(0, 3, 0);
        due.rows(x, 0, 0, 0, 0);
    }

    private static void rowsWithHalf() {
        ForeBook x = new ForeBook();
        Due.rules(x, "missing half;no 0 1 2 3 4 500 6 7 8 9 10;");
        x.question(10, 19);
        x.guess(0, 0, 13, 10);
        x.guess(1, 0, 18, 10);
        x.tell(0, 1, 15);
        due.rows(x, 0, 0, 5, 3 * 25);
        due.rows(x, 1, 0, 5, 5 * 25);
        due.rows(x, 2, 0, 0, 0);
        x.tell(0, 0, 19);
        due.rows(x, 0, 0, 9, 3 * 500 + 6 * 10);
        due.rows(x, 1, 0, 9, 8 * 500 + 10);
        x.tell(0, 0, 10);
        due.rows(x, 0, 0, 0, 0);
    }

    private static void rowsOutOfRange() {
        ForeBook x = new ForeBook();
        x.question(10, 19);
        int[][] wrong = {{-1, 0, 0}, {20, 0, 0}, {0, -1, 0}, {0, 1, 0}, {0, 0, -1}, {0, 0, 2}};
        for (int[] w : wrong) {
            due.same("rows " + w[0] + " " + w[1] + " " + w[2], x.rows(w[0], w[1], w[2]), ForeBook.RANGE);
        }
    }

    private static void rowsFollowTheRules() {
        ForeBook x = new ForeBook();
        x.question(10, 19);
        x.guess(0, 0, 12, 9);
        x.tell(0, 1, 15);
        due.rows(x, 0, 0, 3, 3);
        Due.rules(x, "yes 0 0 0 0 0 7 0 0 0 1000 0;missing half;");
        due.rows(x, 0, 0, 5, 3014);
        Due.rules(x, "yes 0;");
        due.rows(x, 0, 0, 5, 3014);
        x.rules();
        due.rows(x, 0, 0, 3, 3);
    }

    private static void leastDecidesWhatCounts() {
        ForeBook x = new ForeBook();
        x.question(10, 19);
        x.question(10, 19);
        x.guess(0, 0, 10, 8);
        x.guess(0, 1, 15, 7);
        x.tell(0, 1, 14);
        x.tell(1, 1, 18);
        due.mean(x, 0, 16 + 27, 7);
        Due.rules(x, "least 3;");
        due.mean(x, 0, 43, 7);
        Due.rules(x, "least 4;");
        due.mean(x, 0, 4, 1);
        due.rows(x, 0, 1, 3, 27);
        Due.rules(x, "least 5;");
        due.mean(x, 0, 0, 0);
        due.same("with a mean", x.count(4), 0);
        due.same("ranked", x.ranked(0), ForeBook.NONE);
    }

    private static void meanIsCut() {
        ForeBook x = new ForeBook();
        x.question(10, 19);
        x.question(10, 19);
        x.guess(0, 0, 10, 8);
        x.guess(0, 0, 13, 10);
        x.guess(1, 0, 10, 10);
        x.tell(0, 1, 16);
        due.mean(x, 0, 2, 1);
        due.mean(x, 1, 0, 1);
        due.mean(x, 2, 0, 0);
        x.tell(0, 1, 15);
        due.mean(x, 0, 12, 5);
        x.guess(0, 1, 19, 5);
        x.tell(1, 0, 999);
        due.mean(x, 0, 37, 6);
    }

    private static void meanOutOfRange() {
        ForeBook x = new ForeBook();
        int[][] wrong = {{-1, 0}, {20, 0}, {0, -1}, {0, 2}};
        for (int[] w : wrong) {
            due.same("mean " + w[0] + " " + w[1], x.mean(w[0], w[1]), ForeBook.RANGE);
        }
    }

    private static void rankedByMeanThenNumber() {
        ForeBook x = new ForeBook();
        x.question(10, 19);
        x.guess(19, 0, 10, 10);
        x.guess(4, 0, 10, 8);
        x.guess(7, 0, 12, 8);
        x.guess(3, 0, 11, 9);
        x.guess(2, 0, 11, 3);
        x.guess(5, 0, 18, 10);
        x.tell(0, 1, 15);
        int[] want = {19, 3, 4, 7, 2, -1, -1};
        for (int i = 0; i < want.length; i++) {
            due.same("ranked " + i, x.ranked(i), want[i]);
        }
        due.same("ranked -1", x.ranked(-1), ForeBook.NONE);
        due.same("ranked 20", x.ranked(20), ForeBook.NONE);
        due.same("ranked least", x.ranked(Integer.MIN_VALUE), ForeBook.NONE);
        due.same("with a mean", x.count(4), 5);
    }

    private static void whatPays() {
        ForeBook x = new ForeBook();
        for (int k = 0; k <= 10; k++) {
            due.same("pays " + k, x.pays(k), k);
        }
        due.same("pays -1", x.pays(-1), ForeBook.RANGE);
        due.same("pays 11", x.pays(11), ForeBook.RANGE);
        Due.rules(x, "yes 9 9 9 9 9 9 9 9 9 9 9;no 9 9 9 9 9 9 9 9 9 9 9;");
        due.same("alike: the least", x.pays(7), 0);
        Due.rules(x, "yes 9 9 9 9 9 9 1 1 9 9 9;no 9 9 9 9 9 9 1 1 9 9 9;");
        due.same("alike: the least", x.pays(0), 6);
    }

    private static void honestTables() {
        ForeBook x = new ForeBook();
        due.same("squares", x.honest(), ForeBook.NONE);
        Due.rules(x, "yes 100 81 64 49 36 25 16 9 4 1 1;");
        due.same("9 pays as well at 10", x.honest(), 10);
        Due.rules(x, "no 0 0 4 9 16 25 36 49 64 81 100;");
        due.same("1 pays as well at 0", x.honest(), 0);
        Due.rules(x, "yes 100 81 64 49 36 26 16 9 4 1 0;no 0 1 4 9 16 26 36 49 64 81 100;");
        due.same("5 pays no more than 4 and 6 at 5", x.honest(), 5);
        Due.rules(x, "yes 10 9 8 7 6 5 4 3 2 1 0;no 0 1 2 3 4 5 6 7 8 9 10;");
        due.same("straight lines", x.honest(), 1);
    }
}
