import java.math.BigInteger;

/** Promises 16 to 20 and Terms III: bounds of copies, weights, joined numbers and luck. */
public final class CrowdBoundsTest {
    private static final Due due = new Due("CrowdBoundsTest");

    public static void main(String[] args) {
        copiesOneToSoManyDaysBefore();
        copiesOfJustThatTenth();
        copiesOfTheLatestAhead();
        copiesOnTheSameQuestion();
        copiesByAllGuesses();
        copiesWithoutCopy();
        copierBySoManyOrMore();
        copierUpToThatDay();
        copierByDaysNotAsTheyCame();
        copierOfAnotherAlone();
        copierOfOneWhoHoldsSomething();
        copierOfACopier();
        weightAlike();
        weightIsCut();
        weightOfWhatWasKnownAhead();
        weightOverAllQuestions();
        weightOfWhatCounts();
        joinedOfNobody();
        joinedOfAllLeftOut();
        joinedAtHalfOrMore();
        joinedByWeightsAtHalf();
        joinedOnAllDays();
        joinedFollowsEachChange();
        togetherOnDaysThatCount();
        togetherWithoutAnyAside();
        luckOfEveryCount();
        luckOfSumsAlike();
        luckOfLesserSums();
        luckLeavesDaysAside();
        luckOfWhatCounts();
        due.finish();
    }

    private static ForeBook withRules(String text) {
        ForeBook x = new ForeBook();
        Due.rules(x, text);
        return x;
    }

    private static void copiesOneToSoManyDaysBefore() {
        due.sentence("on whose day the other one had told just that TENTH on it one to the first N of copy days before");
        for (int days : new int[] {1, 2, 29, 30}) {
            for (int day = 0; day <= 59; day++) {
                ForeBook x = withRules("copy " + days + " 1;");
                x.question(0, 59);
                x.guess(0, 0, 0, 7);
                x.guess(1, 0, day, 7);
                due.same("a guess " + day + " days behind, copy " + days, x.copies(1, 0), day >= 1 && day <= days ? 1 : 0);
                due.same("the other way", x.copies(0, 1), 0);
            }
        }
        ForeBook x = withRules("copy 1 1;");
        x.question(998, 999);
        x.guess(0, 0, 998, 7);
        x.guess(1, 0, 999, 7);
        due.same("on the last of all days", x.copies(1, 0), 1);
    }

    private static void copiesOfJustThatTenth() {
        due.sentence("the other one had told just that TENTH");
        for (int one = 0; one <= 10; one++) {
            for (int other = 0; other <= 10; other++) {
                ForeBook x = withRules("copy 1 1;");
                x.question(0, 1);
                x.guess(0, 0, 0, one);
                x.guess(1, 0, 1, other);
                due.same(other + " behind " + one, x.copies(1, 0), one == other ? 1 : 0);
            }
        }
    }

    private static void copiesOfTheLatestAhead() {
        due.sentence("as their latest GUESS there told ahead of that day.");
        ForeBook x = withRules("copy 30 1;");
        x.question(0, 59);
        x.guess(0, 0, 10, 7);
        x.guess(0, 0, 12, 6);
        x.guess(1, 0, 12, 7);
        due.same("on the day of the change", x.copies(1, 0), 1);
        x.guess(1, 0, 13, 7);
        due.same("a day behind it", x.copies(1, 0), 1);
        x.guess(1, 0, 13, 6);
        due.same("the new one", x.copies(1, 0), 2);
        x.guess(0, 0, 13, 5);
        x.guess(0, 0, 13, 4);
        x.guess(1, 0, 14, 5);
        due.same("of one day not the first", x.copies(1, 0), 2);
        x.guess(1, 0, 14, 4);
        due.same("of one day the last", x.copies(1, 0), 3);
        x.guess(1, 0, 14, 4);
        due.same("each guess is one", x.copies(1, 0), 4);
        x.guess(0, 0, 20, 4);
        x.guess(1, 0, 43, 4);
        due.same("by the day of the latest, 23 days before", x.copies(1, 0), 5);
        x.guess(1, 0, 50, 4);
        due.same("30 days before", x.copies(1, 0), 6);
        x.guess(1, 0, 51, 4);
        due.same("31 days before", x.copies(1, 0), 6);
    }

    private static void copiesOnTheSameQuestion() {
        due.sentence("their GUESSES (of a TENTH on a QUESTION)");
        ForeBook x = withRules("copy 30 1;");
        x.question(0, 59);
        x.question(0, 59);
        x.guess(0, 0, 10, 7);
        x.guess(1, 1, 11, 7);
        due.same("on another question", x.copies(1, 0), 0);
        x.guess(2, 0, 11, 7);
        due.same("of the one", x.copies(2, 0), 1);
        due.same("not of the other", x.copies(2, 1), 0);
        x.guess(2, 1, 12, 7);
        due.same("of the one", x.copies(2, 0), 1);
        due.same("of the other", x.copies(2, 1), 1);
        due.same("of one who guessed nothing", x.copies(2, 19), 0);
        due.same("of those who guessed nothing", x.copies(19, 18), 0);
    }

    private static void copiesByAllGuesses() {
        due.sentence("COPIES of a GUESSER of another one (unlike), by all GUESSES;");
        ForeBook x = withRules("copy 30 1;");
        x.question(0, 9);
        x.guess(0, 0, 0, 7);
        x.guess(1, 0, 9, 7);
        for (int how = 0; how <= 3; how++) {
            x.tell(0, how, how < 2 ? 5 : 0);
            due.same("told " + how, x.copies(1, 0), 1);
        }
        for (int i = 0; i < 298; i++) {
            x.guess(1, 0, 9, 7);
        }
        due.same("all guesses there can be, but one", x.copies(1, 0), 299);
        due.same("joined by all of them", x.joined(0, 9), 7);
    }

    private static void copiesWithoutCopy() {
        due.sentence("RANGE; STATE: there is no copy.");
        ForeBook x = new ForeBook();
        due.same("no copy", x.copies(0, 1), ForeBook.STATE);
        due.same("RANGE ahead of it", x.copies(0, 0), ForeBook.RANGE);
        due.same("RANGE ahead of it", x.copies(0, 20), ForeBook.RANGE);
        due.same("RANGE ahead of it", x.copies(-1, 0), ForeBook.RANGE);
        Due.rules(x, "copy 1 1;");
        due.same("copy", x.copies(0, 1), 0);
        due.same("a fault: it stays", Due.rules(x, "copy 1 1"), ForeBook.NONE);
        due.same("copy", x.copies(0, 1), 0);
        x.rules();
        due.same("no copy again", x.copies(0, 1), ForeBook.STATE);
    }

    /** 3 of one, 3 of who may be a copier, 9 and 9: joined is 3 with the copier, 9 without. */
    private static void copierBySoManyOrMore() {
        due.sentence("COPIER of another: with the second N of copy COPIES of them or more.");
        for (int times : new int[] {1, 2, 50, 98, 99}) {
            ForeBook x = withRules("copy 1 " + times + ";");
            x.question(0, 59);
            x.guess(0, 0, 0, 3);
            x.guess(2, 0, 0, 9);
            x.guess(3, 0, 0, 9);
            x.guess(1, 0, 0, 3);
            for (int i = 1; i < times; i++) {
                x.guess(1, 0, 1, 3);
            }
            due.same("one copy less than " + times, x.joined(0, 1), 3);
            x.guess(1, 0, 1, 3);
            due.same("copies", x.copies(1, 0), times);
            due.same("just " + times, x.joined(0, 1), 9);
            x.guess(1, 0, 1, 3);
            due.same("one more than " + times, x.joined(0, 1), 9);
        }
    }

    private static void copierUpToThatDay() {
        due.sentence("but those who are COPIER of one who does (by GUESSES up to that day)");
        ForeBook x = withRules("copy 5 2;");
        x.question(0, 9);
        x.guess(0, 0, 0, 3);
        x.guess(2, 0, 0, 9);
        x.guess(3, 0, 0, 9);
        x.guess(1, 0, 1, 3);
        x.guess(1, 0, 4, 3);
        int[] want = {9, 3, 3, 3, 9, 9};
        for (int day = 0; day < want.length; day++) {
            due.same("joined on " + day, x.joined(0, day), want[day]);
        }
        due.same("on the last of all days", x.joined(0, 999), 9);
    }

    /** The first that is told is of the latest day; by days guesser 1 copies on 2 and on 5. */
    private static void copierByDaysNotAsTheyCame() {
        due.sentence("(by GUESSES up to that day)");
        for (int last = 0; last < 2; last++) {
            ForeBook x = withRules("copy 1 2;");
            x.question(0, 9);
            x.question(0, 9);
            for (int i = 0; i < 2; i++) {
                boolean isLate = i == last;
                x.guess(1, isLate ? 0 : 1, isLate ? 5 : 2, 3);
                x.guess(0, isLate ? 0 : 1, isLate ? 4 : 1, 3);
            }
            x.guess(2, 1, 0, 9);
            x.guess(3, 1, 0, 9);
            due.same("copies", x.copies(1, 0), 2);
            due.same("one by day 2", x.joined(1, 2), 3);
            due.same("one by day 4", x.joined(1, 4), 3);
            due.same("two by day 5", x.joined(1, 5), 9);
        }
    }

    private static void copierOfAnotherAlone() {
        due.sentence("COPIER of another");
        ForeBook x = withRules("copy 1 1;");
        x.question(0, 9);
        for (int day = 0; day <= 9; day++) {
            x.guess(0, 0, day, 3);
            due.same("one who says the same again, on " + day, x.joined(0, day), 3);
        }
    }

    private static void copierOfOneWhoHoldsSomething() {
        due.sentence("of all who HOLD something of it, but those who are COPIER of one who does");
        ForeBook x = withRules("copy 1 1;");
        x.question(0, 9);
        x.question(0, 9);
        x.guess(0, 0, 0, 3);
        x.guess(1, 0, 1, 3);
        x.guess(1, 1, 2, 4);
        x.guess(2, 1, 2, 8);
        x.guess(0, 1, 5, 8);
        due.same("whom they copy holds nothing of it", x.joined(1, 2), 4);
        due.same("nor a day ahead of the guess", x.joined(1, 4), 4);
        due.same("from that day on they do", x.joined(1, 5), 8);
    }

    private static void copierOfACopier() {
        due.sentence("but those who are COPIER of one who does");
        ForeBook x = withRules("copy 1 1;");
        x.question(0, 9);
        x.guess(0, 0, 0, 3);
        x.guess(1, 0, 1, 3);
        x.guess(2, 0, 2, 3);
        x.guess(3, 0, 0, 9);
        x.guess(4, 0, 0, 9);
        due.same("copies of the copier", x.copies(2, 1), 1);
        due.same("copies of the first", x.copies(2, 0), 0);
        due.same("one copier aside: 3 9 9", x.joined(0, 1), 9);
        due.same("both aside: 3 9 9", x.joined(0, 2), 9);
        due.same("both count, once there is no copy", joinedWithoutCopy(x, 2), 3);
    }

    private static int joinedWithoutCopy(ForeBook x, int day) {
        x.rules();
        return x.joined(0, day);
    }

    private static void weightAlike() {
        due.sentence("WEIGHT of a GUESSER on a day: alike: 1;");
        ForeBook x = new ForeBook();
        x.question(0, 9);
        x.guess(0, 0, 0, 10);
        x.tell(0, 1, 5);
        for (int day : new int[] {0, 5, 6, 999}) {
            due.same("alike on " + day, x.weight(0, day), 1);
            due.same("alike on " + day, x.weight(19, day), 1);
        }
    }

    /** One row of each tenth, beside one of 5 that costs as told. */
    private static void weights(String yes, int... want) {
        ForeBook x = withRules("weights past;yes " + yes + ";");
        x.question(0, 0);
        for (int t = 0; t <= 10; t++) {
            x.guess(t, 0, 0, t);
        }
        x.tell(0, 1, 1);
        for (int t = 0; t <= 10; t++) {
            due.same("weight of who said " + t + " by " + yes, x.weight(t, 2), want[t]);
        }
    }

    private static void weightIsCut() {
        due.sentence("100 times (T less S) over T (cut; 0 if below 0, or T is 0)");
        weights("990 991 0 1 1000 1000 999 500 333 667 989", 2, 1, 101, 100, 1, 1, 1, 51, 67, 34, 2);
        weights("501 1000 499 495 496 500 0 4 5 6 250", 1, 1, 1, 2, 1, 1, 101, 100, 100, 99, 51);
        weights("0 1 2 3 4 3 1000 4 5 6 7", 101, 67, 34, 1, 1, 1, 1, 1, 1, 1, 1);
        weights("0 1 2 3 4 0 1000 0 5 6 7", 1, 1, 1, 1, 1, 1, 1, 1, 1, 1, 1);
        weights("0 1 2 3 4 1 1000 0 5 6 7", 101, 1, 1, 1, 1, 1, 1, 101, 1, 1, 1);
    }

    private static void weightOfWhatWasKnownAhead() {
        due.sentence("over QUESTIONS that COUNT for them and were KNOWN ahead of that day");
        ForeBook x = withRules("weights past;");
        x.question(10, 19);
        x.guess(0, 0, 10, 10);
        for (int known : new int[] {11, 15, 19, 20, 500, 997, 998}) {
            x.tell(0, 1, known);
            due.same("a day ahead of " + known, x.weight(0, known - 1), 1);
            due.same("on " + known, x.weight(0, known), 1);
            due.same("a day behind " + known, x.weight(0, known + 1), 101);
        }
        x.tell(0, 1, 999);
        due.same("known on the last of all days", x.weight(0, 999), 1);
        x.tell(0, 2, 0);
        due.same("void", x.weight(0, 999), 1);
        x.tell(0, 3, 0);
        due.same("not told", x.weight(0, 999), 1);
    }

    private static void weightOverAllQuestions() {
        due.sentence("T: the COST of 5 in each of those ROWS, S: the sum of these ROWS.");
        ForeBook x = withRules("weights past;yes 0 0 0 0 0 500 0 0 0 999 1000;no 0 0 0 0 0 100 0 0 0 0 0;");
        x.question(0, 0);
        x.question(0, 0);
        x.question(0, 1);
        int[][] tenths = {{0, 10, 0}, {0, 9, 5}, {0, 0, 5}, {10, 10, 0}};
        for (int g = 0; g < tenths.length; g++) {
            for (int q = 0; q < 3; q++) {
                x.guess(g, q, 0, tenths[g][q]);
            }
        }
        x.tell(0, 1, 1);
        x.tell(1, 1, 2);
        due.same("one: saved all", x.weight(0, 2), 101);
        due.same("two: lost as much as was saved", x.weight(0, 3), 1);
        due.same("two: saved 1 of 1000", x.weight(1, 3), 1);
        x.tell(2, 0, 3);
        due.same("three: saved 200 of 1200", x.weight(0, 4), 17);
        due.same("three: saved 1 of 1200", x.weight(1, 4), 1);
        due.same("three: saved 1000 of 1200", x.weight(2, 4), 84);
        due.same("three: lost 800 of 1200", x.weight(3, 4), 1);
    }

    private static void weightOfWhatCounts() {
        due.sentence("over QUESTIONS that COUNT for them");
        ForeBook x = new ForeBook();
        x.question(0, 9);
        x.question(0, 9);
        x.guess(0, 0, 5, 10);
        x.guess(0, 1, 0, 5);
        x.tell(0, 1, 9);
        x.tell(1, 1, 9);
        int[][] wants = {{1, 1 + 400 / 13}, {4, 1 + 400 / 13}, {5, 1}, {9, 1}, {10, 1}};
        for (int[] w : wants) {
            Due.rules(x, "weights past;least " + w[0] + ";");
            due.same("least " + w[0], x.weight(0, 10), w[1]);
        }
        Due.rules(x, "weights past;missing half;least 9;");
        due.same("nine rows each, with half", x.weight(0, 10), 1 + 400 / 18);
    }

    private static void joinedOfNobody() {
        due.sentence("(None: nobody does, or all are left out.)");
        ForeBook x = new ForeBook();
        x.question(10, 19);
        x.question(10, 19);
        for (int day : new int[] {0, 10, 19, 999}) {
            due.same("nobody on " + day, x.joined(0, day), ForeBook.NONE);
        }
        x.guess(0, 0, 15, 0);
        due.same("a day ahead of the first guess", x.joined(0, 14), ForeBook.NONE);
        due.same("on its day", x.joined(0, 15), 0);
        due.same("of the other question", x.joined(1, 15), ForeBook.NONE);
    }

    private static void joinedOfAllLeftOut() {
        due.sentence("(None: nobody does, or all are left out.)");
        ForeBook x = withRules("copy 1 1;");
        x.question(0, 9);
        x.guess(0, 0, 0, 3);
        x.guess(1, 0, 1, 3);
        x.guess(0, 0, 2, 3);
        due.same("both copy", x.joined(0, 2), ForeBook.NONE);
        due.same("one copies", x.joined(0, 1), 3);
        x.guess(2, 0, 4, 10);
        due.same("all left out, a day ahead", x.joined(0, 3), ForeBook.NONE);
        due.same("but one", x.joined(0, 4), 10);
    }

    private static void joinedAtHalfOrMore() {
        due.sentence("the least TENTH t so that those who HOLD t or less have half of all WEIGHTS or more.");
        int[][] held = {{0}, {10}, {0, 10}, {10, 0, 10}, {0, 10, 0}, {1, 2, 3, 4}, {1, 2, 3, 4, 5}, {4, 4, 5, 6},
            {4, 5, 5, 6}, {9, 9, 10, 10, 10}, {9, 9, 9, 10, 10, 10}};
        int[] want = {0, 10, 0, 10, 0, 2, 3, 4, 5, 10, 9};
        for (int i = 0; i < held.length; i++) {
            ForeBook x = new ForeBook();
            x.question(0, 0);
            for (int g = 0; g < held[i].length; g++) {
                x.guess(g, 0, 0, held[i][g]);
            }
            due.same("joined of " + java.util.Arrays.toString(held[i]), x.joined(0, 0), want[i]);
        }
        ForeBook x = new ForeBook();
        x.question(0, 0);
        for (int g = 0; g < 20; g++) {
            x.guess(g, 0, 0, g / 2);
        }
        due.same("of all guessers, just half at 4", x.joined(0, 0), 4);
        x.guess(9, 0, 0, 5);
        due.same("one less than half at 4", x.joined(0, 0), 5);
    }

    /** Weights of 101, 100 and 1, who hold 9, 3 and 4 or nothing. */
    private static void joinedByWeightsAtHalf() {
        due.sentence("have half of all WEIGHTS or more.");
        ForeBook x = withRules("weights past;yes 0 5 1000 0 0 1000 0 0 0 0 0;");
        x.question(0, 0);
        x.question(0, 9);
        x.guess(0, 0, 0, 0);
        x.guess(1, 0, 0, 1);
        x.guess(2, 0, 0, 2);
        x.guess(0, 1, 5, 9);
        x.guess(1, 1, 5, 3);
        x.guess(2, 1, 6, 4);
        x.tell(0, 1, 5);
        int[] weights = {101, 100, 1};
        for (int g = 0; g < 3; g++) {
            due.same("weight of " + g, x.weight(g, 6), weights[g]);
        }
        due.same("known that day, so alike: 3 and 9", x.joined(1, 5), 3);
        due.same("101 of 202 at 4", x.joined(1, 6), 4);
        x.guess(2, 1, 7, 10);
        due.same("100 of 202 at 3", x.joined(1, 7), 9);
        Due.rules(x, "weights past;yes 0 0 1000 0 0 1000 0 0 0 0 0;");
        due.same("101 of 203 at 3", x.joined(1, 7), 9);
        x.guess(2, 1, 8, 0);
        due.same("102 of 203 at 3", x.joined(1, 8), 3);
    }

    private static void joinedOnAllDays() {
        due.sentence("JOINED number of a QUESTION on a day; NONE; RANGE.");
        ForeBook x = new ForeBook();
        x.question(0, 59);
        x.question(940, 999);
        x.guess(0, 0, 0, 3);
        x.guess(0, 0, 59, 4);
        x.guess(0, 1, 940, 6);
        x.guess(0, 1, 999, 7);
        int[][] want = {{0, 0, 3}, {0, 58, 3}, {0, 59, 4}, {0, 60, 4}, {0, 61, 4}, {0, 999, 4}, {1, 0, -1}, {1, 939, -1},
            {1, 940, 6}, {1, 998, 6}, {1, 999, 7}, {0, -1, -2}, {0, 1000, -2}, {1, 1000, -2}};
        for (int[] w : want) {
            due.same("joined(" + w[0] + ", " + w[1] + ")", x.joined(w[0], w[1]), w[2]);
        }
        for (int q = 2; q < 20; q++) {
            x.question(0, 59);
            x.guess(0, q, 0, q % 11);
        }
        for (int q = 2; q < 20; q++) {
            due.same("joined(" + q + ", 60)", x.joined(q, 60), q % 11);
            due.same("joined(" + q + ", 999)", x.joined(q, 999), q % 11);
            due.same("joined(" + q + ", 0)", x.joined(q, 0), q % 11);
        }
    }

    private static void joinedFollowsEachChange() {
        due.sentence("JOINED number of a QUESTION on a day");
        ForeBook x = new ForeBook();
        x.question(0, 9);
        x.guess(0, 0, 0, 8);
        due.same("one", x.joined(0, 5), 8);
        x.question(0, 9);
        x.guess(1, 0, 5, 3);
        due.same("two", x.joined(0, 5), 3);
        x.question(0, 9);
        Due.rules(x, "copy 5 1;");
        x.guess(1, 0, 5, 8);
        due.same("two that copy", x.joined(0, 5), 8);
        x.guess(1, 0, 5, 3);
        due.same("the copier is left out still", x.joined(0, 5), 8);
        x.rules();
        due.same("no copy", x.joined(0, 5), 3);
    }

    private static void togetherOnDaysThatCount() {
        due.sentence("ROWS of what was JOINED on a QUESTION (on days that count, without any aside)");
        ForeBook x = new ForeBook();
        x.question(0, 59);
        x.guess(0, 0, 0, 8);
        due.together(x, 0, 0, 0);
        for (int known : new int[] {0, 1, 2, 59, 60, 61, 999}) {
            x.tell(0, 1, known);
            int many = Math.min(known, 60);
            due.together(x, 0, many, 4 * many);
            x.tell(0, 0, known);
            due.together(x, 0, many, 64 * many);
        }
        Due.rules(x, "least 99;");
        due.together(x, 0, 60, 64 * 60);
        due.sentence("what 0: how many, 1: their sum (0 if it isn't YES or NO). RANGE.");
        x.tell(0, 2, 0);
        due.together(x, 0, 0, 0);
        x.tell(0, 3, 0);
        due.together(x, 0, 0, 0);
    }

    private static void togetherWithoutAnyAside() {
        due.sentence("(on days that count, without any aside)");
        for (String text : new String[] {"missing skip;copy 1 1;", "missing half;copy 1 1;"}) {
            ForeBook x = withRules(text);
            x.question(10, 19);
            x.question(10, 19);
            x.guess(0, 0, 13, 9);
            x.guess(1, 0, 14, 9);
            x.guess(0, 0, 15, 9);
            x.guess(2, 0, 18, 8);
            x.tell(0, 1, 20);
            x.tell(1, 1, 20);
            due.together(x, 0, 4, 1 + 1 + 4 + 4);
            due.together(x, 1, 0, 0);
        }
    }

    /** Guessers 0, 1, 2 hold 2, 5, 8: joined is 5, and guesser 2 is better where it is YES. */
    private static void luckOfEveryCount() {
        due.sentence("in how many of 2^n rows of heads and tails there are b heads or more.");
        for (int n : new int[] {0, 1, 2, 3, 10, 19, 20}) {
            ForeBook x = new ForeBook();
            for (int q = 0; q < n; q++) {
                x.question(0, 0);
                for (int g = 0; g < 3; g++) {
                    x.guess(g, q, 0, 2 + 3 * g);
                }
                x.tell(q, 0, 1);
            }
            for (int b = 0; b <= n; b++) {
                due.luck(x, 2, n, b, withHeads(n, b));
                due.luck(x, 0, n, n - b, withHeads(n, n - b));
                due.luck(x, 1, 0, 0, 1);
                x.tell(b, 1, 1);
            }
        }
    }

    private static long withHeads(int n, int heads) {
        BigInteger found = BigInteger.ZERO;
        for (int b = heads; b <= n; b++) {
            BigInteger ways = BigInteger.ONE;
            for (int i = 0; i < b; i++) {
                ways = ways.multiply(BigInteger.valueOf(n - i)).divide(BigInteger.valueOf(i + 1));
            }
            found = found.add(ways);
        }
        return found.longValueExact();
    }

    private static void luckOfSumsAlike() {
        due.sentence("n are those whose ROWS are unlike in sum to the ROWS of what was JOINED on the same days");
        ForeBook x = withRules("yes 0 1 2 3 4 5 6 7 8 9 10;");
        x.question(0, 1);
        x.guess(1, 0, 0, 5);
        x.guess(2, 0, 0, 5);
        x.guess(0, 0, 0, 4);
        x.guess(0, 0, 1, 6);
        x.tell(0, 1, 2);
        due.luck(x, 0, 0, 0, 1);
        x.tell(0, 1, 1);
        due.luck(x, 0, 1, 1, 1);
        due.luck(x, 1, 0, 0, 1);
        x.tell(0, 0, 2);
        due.luck(x, 0, 1, 0, 2);
    }

    private static void luckOfLesserSums() {
        due.sentence("in b of these theirs is the lesser sum");
        ForeBook x = withRules("yes 0 1 2 3 4 5 6 7 8 9 10;no 0 1 2 3 4 5 6 7 8 9 10;");
        for (int q = 0; q < 2; q++) {
            x.question(0, 59);
            x.guess(1, q, 0, 5);
            x.guess(2, q, 0, 5);
            x.guess(0, q, 0, 5);
            x.guess(0, q, 59, 4 + 2 * q);
        }
        x.tell(0, 1, 59);
        x.tell(1, 1, 59);
        due.luck(x, 0, 0, 0, 1);
        x.tell(0, 1, 60);
        due.luck(x, 0, 1, 1, 1);
        x.tell(1, 0, 60);
        due.luck(x, 0, 2, 1, 3);
        x.tell(0, 1, 59);
        due.luck(x, 0, 1, 0, 2);
    }

    private static void luckLeavesDaysAside() {
        due.sentence("(days without a ROW of theirs, or without a JOINED number, aside on both sides)");
        ForeBook x = new ForeBook();
        x.question(10, 19);
        x.guess(1, 0, 10, 2);
        x.guess(1, 0, 14, 9);
        x.guess(0, 0, 14, 9);
        x.tell(0, 1, 20);
        due.luck(x, 0, 0, 0, 1);
        Due.rules(x, "missing half;");
        due.luck(x, 0, 1, 1, 1);
        ForeBook y = withRules("missing half;");
        y.question(10, 19);
        y.guess(0, 0, 15, 9);
        y.tell(0, 1, 20);
        due.same("rows, five of them of 5", y.rows(0, 0, 1), 130);
        due.luck(y, 0, 0, 0, 1);
        ForeBook z = withRules("copy 1 1;");
        z.question(10, 19);
        z.guess(0, 0, 10, 9);
        z.guess(1, 0, 11, 9);
        z.guess(0, 0, 12, 9);
        z.guess(0, 0, 13, 2);
        z.tell(0, 1, 20);
        due.same("days with a joined number", z.together(0, 0), 2);
        due.luck(z, 0, 0, 0, 1);
        due.luck(z, 1, 0, 0, 1);
    }

    private static void luckOfWhatCounts() {
        due.sentence("LUCK of a GUESSER: of QUESTIONS that are YES or NO and COUNT");
        ForeBook x = new ForeBook();
        x.question(0, 9);
        x.question(0, 9);
        for (int q = 0; q < 2; q++) {
            x.guess(1, q, 0, 5);
            x.guess(2, q, 0, 5);
            x.guess(0, q, 4, 9);
            x.tell(q, 1, 9);
        }
        due.luck(x, 0, 2, 2, 1);
        Due.rules(x, "least 5;");
        due.luck(x, 0, 2, 2, 1);
        Due.rules(x, "least 6;");
        due.luck(x, 0, 0, 0, 1);
        x.rules();
        x.tell(0, 2, 0);
        due.luck(x, 0, 1, 1, 1);
        x.tell(1, 3, 0);
        due.luck(x, 0, 0, 0, 1);
        x.tell(0, 1, 4);
        due.luck(x, 0, 0, 0, 1);
        x.tell(0, 1, 5);
        due.luck(x, 0, 1, 1, 1);
        due.luck(x, 3, 0, 0, 1);
    }
}
