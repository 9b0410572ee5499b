/** Promises 11 to 15 and Terms II: bounds of rows, least, means, ranks, what pays and honest tables. */
public final class CostBoundsTest {
    private static final Due due = new Due("CostBoundsTest");
    private static final String UNLIKE_COSTS = "yes 200 201 202 203 204 205 206 207 208 209 210;"
            + "no 400 401 402 403 404 405 406 407 408 409 410;";

    public static void main(String[] args) {
        rowsBelowTheDayItWasKnown();
        rowsOfOneDay();
        rowsOfSixtyDays();
        rowsCostWhatIsHeld();
        missingDaysAreSkipped();
        missingDaysAreHalf();
        noRowsWithoutAGuess();
        guessedWhenItWasKnownAlready();
        noRowsIfNeitherYesNorNo();
        rowsFollowEachChange();
        leastRowsOrMore();
        leastAboveSixty();
        meanWithoutAny();
        meanIsCut();
        meanOfAllThereCanBe();
        meanOfWhatCountsAlone();
        rankedAlikeByNumber();
        rankedByFractions();
        rankedWithAMeanAlone();
        paysTheLeastOfThoseAlike();
        paysAtBothEnds();
        honestAtEachBelief();
        tablesThatAreNearlyHonest();
        due.finish();
    }

    private static void rowsBelowTheDayItWasKnown() {
        due.sentence("one for each of its days from .. to that is below the day on which it was KNOWN");
        ForeBook x = new ForeBook();
        x.question(10, 19);
        x.guess(0, 0, 10, 8);
        for (int known = 10; known <= 23; known++) {
            x.tell(0, 1, known);
            int many = Math.min(known, 20) - 10;
            due.rows(x, 0, 0, many, 4 * many);
        }
        x.tell(0, 0, 999);
        due.rows(x, 0, 0, 10, 640);
    }

    private static void rowsOfOneDay() {
        due.sentence("one for each of its days from .. to that is below the day on which it was KNOWN");
        ForeBook x = new ForeBook();
        x.question(999, 999);
        x.question(0, 0);
        x.guess(0, 0, 999, 8);
        x.guess(0, 1, 0, 8);
        x.tell(0, 1, 999);
        due.rows(x, 0, 0, 0, 0);
        x.tell(1, 1, 0);
        due.rows(x, 0, 1, 0, 0);
        x.tell(1, 1, 1);
        due.rows(x, 0, 1, 1, 4);
        x.tell(1, 0, 999);
        due.rows(x, 0, 1, 1, 64);
    }

    private static void rowsOfSixtyDays() {
        due.sentence("Bounds: costs 0 .. 1000;");
        ForeBook x = new ForeBook();
        Due.rules(x, "yes 0 0 0 0 0 0 0 0 0 0 1000;no 0 0 0 0 0 1000 0 0 0 0 0;missing half;");
        x.question(940, 999);
        x.question(0, 59);
        x.guess(0, 0, 940, 10);
        x.guess(0, 1, 59, 10);
        x.tell(0, 1, 999);
        due.rows(x, 0, 0, 59, 59000);
        x.tell(1, 1, 60);
        due.rows(x, 0, 1, 60, 1000);
        x.tell(1, 0, 60);
        due.rows(x, 0, 1, 60, 59000);
        x.tell(1, 0, 59);
        due.rows(x, 0, 1, 59, 59000);
    }

    private static void rowsCostWhatIsHeld() {
        due.sentence("the COST of what they HOLD");
        for (int t = 0; t <= 10; t++) {
            ForeBook x = new ForeBook();
            Due.rules(x, UNLIKE_COSTS);
            x.question(10, 10);
            x.guess(19, 0, 10, 5);
            x.guess(19, 0, 10, t);
            x.tell(0, 1, 11);
            due.rows(x, 19, 0, 1, 200 + t);
            x.tell(0, 0, 11);
            due.rows(x, 19, 0, 1, 400 + t);
        }
        ForeBook x = new ForeBook();
        Due.rules(x, UNLIKE_COSTS);
        x.question(10, 19);
        for (int day = 10; day <= 19; day++) {
            x.guess(0, 0, day, day - 10);
        }
        x.tell(0, 1, 20);
        due.rows(x, 0, 0, 10, 2045);
        x.tell(0, 0, 12);
        due.rows(x, 0, 0, 2, 801);
    }

    private static void missingDaysAreSkipped() {
        due.sentence("on a day on which they HOLD nothing none (skip)");
        for (int day = 10; day <= 19; day++) {
            ForeBook x = new ForeBook();
            x.question(10, 19);
            x.guess(0, 0, day, 8);
            x.tell(0, 1, 15);
            int many = Math.max(0, 15 - day);
            due.rows(x, 0, 0, many, 4 * many);
        }
    }

    private static void missingDaysAreHalf() {
        due.sentence("or that of 5 (half)");
        for (int how = 0; how <= 1; how++) {
            for (int day = 10; day <= 19; day++) {
                ForeBook x = new ForeBook();
                Due.rules(x, "missing half;" + UNLIKE_COSTS);
                x.question(10, 19);
                x.guess(0, 0, day, 8);
                x.tell(0, how, 15);
                int missing = Math.min(day, 15) - 10;
                int base = how == 1 ? 200 : 400;
                due.rows(x, 0, 0, 5, missing * (base + 5) + (5 - missing) * (base + 8));
            }
        }
    }

    private static void noRowsWithoutAGuess() {
        due.sentence("but none at all if they never guessed it.");
        ForeBook x = new ForeBook();
        Due.rules(x, "missing half;");
        x.question(10, 19);
        x.question(10, 19);
        x.guess(0, 0, 10, 8);
        x.tell(0, 1, 15);
        x.tell(1, 1, 15);
        due.rows(x, 0, 1, 0, 0);
        due.rows(x, 1, 0, 0, 0);
        due.same("with a mean", x.count(4), 1);
        due.mean(x, 0, 4, 1);
    }

    private static void guessedWhenItWasKnownAlready() {
        due.sentence("but none at all if they never guessed it.");
        ForeBook x = new ForeBook();
        x.question(10, 19);
        x.guess(0, 0, 15, 10);
        x.tell(0, 1, 15);
        due.rows(x, 0, 0, 0, 0);
        Due.rules(x, "missing half;");
        due.rows(x, 0, 0, 5, 125);
        x.tell(0, 1, 10);
        due.rows(x, 0, 0, 0, 0);
    }

    private static void noRowsIfNeitherYesNorNo() {
        due.sentence("(0 if it isn't YES or NO.) RANGE.");
        ForeBook x = new ForeBook();
        Due.rules(x, "missing half;");
        x.question(0, 9);
        x.guess(0, 0, 0, 8);
        due.rows(x, 0, 0, 0, 0);
        x.tell(0, 1, 5);
        due.rows(x, 0, 0, 5, 20);
        x.tell(0, 2, 0);
        due.rows(x, 0, 0, 0, 0);
        due.mean(x, 0, 0, 0);
        x.tell(0, 0, 5);
        due.rows(x, 0, 0, 5, 320);
        x.tell(0, 3, 0);
        due.rows(x, 0, 0, 0, 0);
        due.mean(x, 0, 0, 0);
    }

    /** What is kept of an earlier ask must not outlive a change, whatever came between. */
    private static void rowsFollowEachChange() {
        due.sentence("ROWS of a GUESSER on a QUESTION that is YES or NO");
        ForeBook x = new ForeBook();
        x.question(0, 9);
        x.guess(0, 0, 0, 8);
        due.rows(x, 0, 0, 0, 0);
        x.question(0, 9);
        x.tell(0, 1, 5);
        due.rows(x, 0, 0, 5, 20);
        x.question(0, 9);
        x.tell(0, 3, 0);
        x.guess(0, 0, 1, 9);
        x.question(0, 9);
        x.question(0, 9);
        x.tell(0, 1, 5);
        due.rows(x, 0, 0, 5, 8);
        x.question(0, 9);
        Due.rules(x, "yes 7 7 7 7 7 7 7 7 7 7 7;");
        due.rows(x, 0, 0, 5, 35);
        due.mean(x, 0, 7, 1);
    }

    private static void leastRowsOrMore() {
        due.sentence("It COUNTS for them, if it has least ROWS or more.");
        ForeBook x = new ForeBook();
        x.question(0, 59);
        x.guess(0, 0, 0, 8);
        for (int many : new int[] {0, 1, 2, 30, 59, 60}) {
            x.tell(0, 1, many);
            for (int least : new int[] {1, 2, 3, 29, 30, 31, 58, 59, 60}) {
                Due.rules(x, "least " + least + ";");
                boolean counts = many >= least;
                due.same("mean below, " + many + " rows, least " + least, x.mean(0, 1), counts ? 1 : 0);
                due.same("with a mean", x.count(4), counts ? 1 : 0);
                due.same("rows all the same", x.rows(0, 0, 0), many);
            }
        }
    }

    private static void leastAboveSixty() {
        due.sentence("It COUNTS for them, if it has least ROWS or more.");
        ForeBook x = new ForeBook();
        x.question(0, 59);
        x.question(0, 59);
        x.guess(0, 0, 0, 8);
        x.guess(0, 1, 0, 8);
        x.tell(0, 1, 60);
        x.tell(1, 1, 60);
        Due.rules(x, "least 60;");
        due.mean(x, 0, 4, 1);
        Due.rules(x, "least 61;");
        due.mean(x, 0, 0, 0);
        Due.rules(x, "least 99;weights past;");
        due.mean(x, 0, 0, 0);
        due.same("ranked", x.ranked(0), ForeBook.NONE);
        due.same("weight", x.weight(0, 999), 1);
        due.same("luck", x.luck(0, 0), 0);
        due.rows(x, 0, 0, 60, 240);
    }

    private static void meanWithoutAny() {
        due.sentence("MEAN of a GUESSER, what 0: above, 1: below; 0 for both without; RANGE.");
        ForeBook x = new ForeBook();
        due.mean(x, 0, 0, 0);
        x.question(10, 19);
        x.guess(0, 0, 12, 8);
        due.mean(x, 0, 0, 0);
        x.tell(0, 1, 12);
        due.mean(x, 0, 0, 0);
        x.tell(0, 1, 13);
        due.mean(x, 0, 4, 1);
        due.mean(x, 1, 0, 0);
        due.mean(x, 19, 0, 0);
    }

    private static void meanIsCut() {
        due.sentence("MEAN: the sum of all ROWS of QUESTIONS that COUNT, over how many: a fraction, cut.");
        ForeBook x = new ForeBook();
        x.question(0, 59);
        x.guess(0, 0, 0, 10);
        x.tell(0, 1, 60);
        due.mean(x, 0, 0, 1);
        x.tell(0, 3, 0);
        x.guess(0, 0, 54, 9);
        x.tell(0, 1, 60);
        due.mean(x, 0, 1, 10);
        x.tell(0, 1, 59);
        due.mean(x, 0, 5, 59);
        x.tell(0, 1, 58);
        due.mean(x, 0, 2, 29);
        x.tell(0, 0, 54);
        due.mean(x, 0, 100, 1);
    }

    private static void meanOfAllThereCanBe() {
        due.sentence("MEAN: the sum of all ROWS of QUESTIONS that COUNT, over how many: a fraction, cut.");
        ForeBook x = new ForeBook();
        Due.rules(x, "yes 1000 999 0 0 0 0 0 0 0 0 0;");
        for (int q = 0; q < 20; q++) {
            x.question(q, q + 59);
            x.guess(0, q, q, 0);
            x.guess(1, q, q, 0);
        }
        x.guess(1, 19, 78, 1);
        for (int q = 0; q < 20; q++) {
            x.tell(q, 1, 999);
        }
        due.mean(x, 0, 1000, 1);
        due.mean(x, 1, 1199999, 1200);
        due.same("the lesser one first", x.ranked(0), 1);
        due.same("the other behind", x.ranked(1), 0);
    }

    private static void meanOfWhatCountsAlone() {
        due.sentence("MEAN: the sum of all ROWS of QUESTIONS that COUNT");
        ForeBook x = new ForeBook();
        x.question(10, 19);
        x.question(10, 19);
        x.guess(0, 0, 10, 8);
        x.guess(0, 1, 10, 5);
        x.tell(0, 1, 13);
        x.tell(1, 1, 12);
        due.mean(x, 0, 62, 5);
        Due.rules(x, "least 2;");
        due.mean(x, 0, 62, 5);
        Due.rules(x, "least 3;");
        due.mean(x, 0, 4, 1);
        Due.rules(x, "least 4;");
        due.mean(x, 0, 0, 0);
    }

    private static void rankedAlikeByNumber() {
        due.sentence("RANKED: GUESSERS with a MEAN, the least first, alike by number.");
        ForeBook x = new ForeBook();
        x.question(10, 29);
        for (int g = 19; g >= 0; g--) {
            x.guess(g, 0, 10 + g % 3, 8);
        }
        x.tell(0, 1, 30);
        for (int i = 0; i < 20; i++) {
            due.same("ranked " + i, x.ranked(i), i);
        }
        due.same("ranked 20", x.ranked(20), ForeBook.NONE);
        due.same("ranked -1", x.ranked(-1), ForeBook.NONE);
        due.same("with a mean", x.count(4), 20);
    }

    /** Means 58 over 59, 59 over 60, and 118 over 120 that is alike to the second. */
    private static void rankedByFractions() {
        due.sentence("RANKED: GUESSERS with a MEAN, the least first, alike by number.");
        ForeBook x = new ForeBook();
        x.question(0, 59);
        x.question(0, 59);
        int[] latter = {7, 3, 5};
        for (int g : latter) {
            x.guess(g, 0, g == 5 ? 1 : 0, 9);
            x.guess(g, 0, 59, 10);
        }
        x.guess(3, 1, 0, 9);
        x.guess(3, 1, 59, 10);
        x.tell(0, 1, 60);
        x.tell(1, 1, 60);
        due.mean(x, 5, 58, 59);
        due.mean(x, 3, 59, 60);
        due.mean(x, 7, 59, 60);
        int[] want = {5, 3, 7, ForeBook.NONE};
        for (int i = 0; i < want.length; i++) {
            due.same("ranked " + i, x.ranked(i), want[i]);
        }
    }

    private static void rankedWithAMeanAlone() {
        due.sentence("The i-th RANKED GUESSER; NONE.");
        ForeBook x = new ForeBook();
        due.same("nobody", x.ranked(0), ForeBook.NONE);
        x.question(10, 19);
        x.guess(19, 0, 10, 0);
        due.same("not told yet", x.ranked(0), ForeBook.NONE);
        x.tell(0, 1, 11);
        due.same("the only one", x.ranked(0), 19);
        due.same("behind them", x.ranked(1), ForeBook.NONE);
        due.same("ahead of them", x.ranked(-1), ForeBook.NONE);
        due.same("far off", x.ranked(Integer.MAX_VALUE), ForeBook.NONE);
        due.same("far off", x.ranked(Integer.MIN_VALUE), ForeBook.NONE);
    }

    private static void paysTheLeastOfThoseAlike() {
        due.sentence("What PAYS is the t with the least of that (of these the least t).");
        ForeBook x = new ForeBook();
        Due.rules(x, "yes 1000 1000 1000 1000 1000 1000 1000 1000 1000 1000 1000;"
                + "no 1000 1000 1000 1000 1000 1000 1000 1000 1000 1000 1000;");
        for (int k = 0; k <= 10; k++) {
            due.same("all alike, pays " + k, x.pays(k), 0);
        }
        Due.rules(x, "yes 10 9 8 7 6 5 4 3 2 1 0;no 0 1 2 3 4 5 6 7 8 9 10;");
        for (int k = 0; k <= 10; k++) {
            due.same("straight lines, pays " + k, x.pays(k), k <= 5 ? 0 : 10);
        }
        Due.rules(x, "yes 9 9 9 9 9 9 9 9 9 0 0;no 9 9 9 9 9 9 9 9 9 0 0;");
        due.same("9 and 10 alike", x.pays(0), 9);
        due.same("9 and 10 alike", x.pays(10), 9);
    }

    private static void paysAtBothEnds() {
        due.sentence("k times the COST of t when YES, and 10 less k times that when NO.");
        ForeBook x = new ForeBook();
        Due.rules(x, "yes 9 8 7 6 0 5 4 3 2 1 1;no 5 5 5 5 5 5 5 0 1 1 1;");
        due.same("sure of NO", x.pays(0), 7);
        due.same("one tenth: 9 * 0 + 3", x.pays(1), 7);
        due.same("nine tenths: 0 + 5, or 9 + 1", x.pays(9), 4);
        due.same("sure of YES", x.pays(10), 4);
        due.same("six tenths: 20, 18, 16, 10", x.pays(6), 9);
        due.same("below", x.pays(-1), ForeBook.RANGE);
        due.same("above", x.pays(11), ForeBook.RANGE);
    }

    /** The plain table, with one tenth's costs changed so that just one belief is no more paid alone. */
    private static void honestAtEachBelief() {
        due.sentence("A table is HONEST, if for each k of 0 .. 10 t = k pays, and no other t as much.");
        due.same("the plain table", new ForeBook().honest(), ForeBook.NONE);
        for (int k = 0; k <= 10; k++) {
            ForeBook x = new ForeBook();
            due.same("one more where YES and NO", Due.rules(x, tableWith(k, 1, 1)), 2);
            due.same("its neighbours pay as much at " + k, x.honest(), k);
        }
        due.sentence("NONE if the table is HONEST, else the least k with which it is not.");
        ForeBook x = new ForeBook();
        Due.rules(x, "yes 0 0 0 0 0 0 0 0 0 0 0;no 0 0 0 0 0 0 0 0 0 0 0;");
        due.same("all alike", x.honest(), 0);
        Due.rules(x, "yes 100 81 64 49 36 25 16 9 4 1 1;");
        due.same("the last belief alone", x.honest(), 10);
        Due.rules(x, "yes 1000 810 640 490 360 250 160 90 40 10 0;no 0 10 40 90 160 250 360 490 640 810 1000;");
        due.same("ten times the plain table", x.honest(), ForeBook.NONE);
    }

    /** The plain table, with the costs of one tenth changed. */
    private static String tableWith(int tenth, int moreOfYes, int moreOfNo) {
        StringBuilder yes = new StringBuilder("yes");
        StringBuilder no = new StringBuilder("no");
        for (int t = 0; t <= 10; t++) {
            yes.append(' ').append((10 - t) * (10 - t) + (t == tenth ? moreOfYes : 0));
            no.append(' ').append(t * t + (t == tenth ? moreOfNo : 0));
        }
        return yes + ";" + no + ";";
    }

    /** Each tenth made cheaper step by step, until it pays others as much as their own, and then more. */
    private static void tablesThatAreNearlyHonest() {
        due.sentence("t = k pays, and no other t as much.");
        ForeBook once = new ForeBook();
        Due.rules(once, "yes 90 81 64 49 36 25 16 9 4 1 0;");
        due.same("0 pays as much as 1 at 1", once.honest(), 1);
        due.same("the least of them", once.pays(1), 0);
        for (int t = 0; t <= 10; t++) {
            for (int less = 0; less <= 20 && less <= (10 - t) * (10 - t); less++) {
                asWordsSay(t, -less, 0);
            }
            for (int less = 0; less <= 20 && less <= t * t; less++) {
                asWordsSay(t, 0, -less);
            }
        }
    }

    private static void asWordsSay(int tenth, int moreOfYes, int moreOfNo) {
        ForeBook x = new ForeBook();
        Due.rules(x, tableWith(tenth, moreOfYes, moreOfNo));
        NaiveBook naive = new NaiveBook();
        naive.yes[tenth] += moreOfYes;
        naive.no[tenth] += moreOfNo;
        String table = " with " + moreOfYes + " and " + moreOfNo + " at " + tenth;
        due.same("honest" + table, x.honest(), naive.honest());
        for (int k = 0; k <= 10; k++) {
            due.same("pays " + k + table, x.pays(k), naive.pays(k));
        }
    }
}
