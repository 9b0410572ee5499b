/** Promises 21 to 24 and Terms IV: bounds of ties, pumps and what is mended. */
public final class TieBoundsTest {
    private static final Due due = new Due("TieBoundsTest");

    public static void main(String[] args) {
        tiesAreThirty();
        tieRefusalsInOrder();
        everyTieOfEveryTenth();
        pumpsOfWhatTheyHoldAlone();
        pumpsAreBits();
        mendOfOneToFour();
        mendOfTheLastQuestions();
        mendRefusalsInOrder();
        mendOfWhatIsHeldThatDay();
        mendEveryTieOfEveryTenth();
        mendByTiesInsideTheSet();
        mendTakesTheLeastRow();
        mendChainsOfFour();
        mendedOfTheLatestThatToldASum();
        mendLeavesWhatIsHeld();
        due.finish();
    }

    private static ForeBook holding(int... tenths) {
        ForeBook x = Due.withQuestions(tenths.length);
        for (int q = 0; q < tenths.length; q++) {
            x.guess(0, q, 10, tenths[q]);
        }
        return x;
    }

    private static void tiesAreThirty() {
        due.sentence("TIES, at most 30, of two QUESTIONS");
        ForeBook x = Due.withQuestions(20);
        for (int i = 0; i < 30; i++) {
            due.same("tie " + i, x.tie(i % 20, (i + 1) % 20, i % 3), i);
            due.same("ties", x.count(2), i + 1);
        }
        due.same("the 31st", x.tie(0, 1, 0), ForeBook.FULL);
        due.same("and again", x.tie(18, 19, 2), ForeBook.FULL);
        due.same("ties", x.count(2), 30);
    }

    private static void tieRefusalsInOrder() {
        due.sentence("A TIE of two QUESTIONS (unlike), kind 0 .. 2: its number; RANGE; FULL.");
        ForeBook x = Due.withQuestions(2);
        int[][] wrong = {{0, 0, 0}, {1, 1, 1}, {-1, 0, 0}, {0, -1, 0}, {2, 0, 0}, {0, 2, 0}, {0, 1, -1}, {0, 1, 3}};
        for (int full = 0; full < 2; full++) {
            for (int[] w : wrong) {
                due.same("tie " + w[0] + " " + w[1] + " " + w[2], x.tie(w[0], w[1], w[2]), ForeBook.RANGE);
            }
            due.same("ties", x.count(2), full * 30);
            for (int i = 0; i < 30 && full == 0; i++) {
                due.same("both ways, and the same again", x.tie(i % 2, 1 - i % 2, i % 3), i);
            }
        }
        due.same("no room", x.tie(0, 1, 0), ForeBook.FULL);
    }

    private static boolean breaks(int kind, int one, int other) {
        return kind == 0 ? one > other : kind == 1 ? one + other > 10 : one + other < 10;
    }

    private static void everyTieOfEveryTenth() {
        String[] sentences = {"0 the first one makes the other sure (its TENTH is not above that of the other)",
            "1 not both (both TENTHS together are not above 10)", "2 one at least (not below 10)"};
        for (int kind = 0; kind <= 2; kind++) {
            due.sentence(sentences[kind]);
            for (int one = 0; one <= 10; one++) {
                for (int other = 0; other <= 10; other++) {
                    ForeBook x = holding(one, other);
                    x.tie(0, 1, kind);
                    x.tie(1, 0, kind);
                    int there = breaks(kind, one, other) ? 1 : 0;
                    int back = breaks(kind, other, one) ? 2 : 0;
                    due.same("pumps of kind " + kind + " with " + one + " and " + other, x.pumps(0, 10), there | back);
                }
            }
        }
    }

    private static void pumpsOfWhatTheyHoldAlone() {
        due.sentence("TIES that what they HOLD breaks (of QUESTIONS of which they HOLD something alone).");
        for (int kind = 0; kind <= 2; kind++) {
            ForeBook x = Due.withQuestions(2);
            x.tie(0, 1, kind);
            x.tie(1, 0, kind);
            int first = kind == 2 ? 0 : 10;
            int second = kind == 1 ? 10 : 0;
            int broken = kind == 0 ? 1 : 3;
            x.guess(0, 0, 12, first);
            x.guess(0, 1, 14, second);
            x.guess(1, 1, 12, second);
            due.same("nothing", x.pumps(0, 11), 0);
            due.same("one, on its day", x.pumps(0, 12), 0);
            due.same("one, a day ahead of the other", x.pumps(0, 13), 0);
            due.same("both", x.pumps(0, 14), broken);
            due.same("both, when they are closed", x.pumps(0, 20), broken);
            due.same("both, on the last of all days", x.pumps(0, 999), broken);
            due.same("both, on the first of all days", x.pumps(0, 0), 0);
            due.same("the other one alone", x.pumps(1, 14), 0);
            due.same("who guessed nothing", x.pumps(19, 14), 0);
        }
    }

    private static void pumpsAreBits() {
        due.sentence("PUMPS of a GUESSER on a day, as bits (bit i: TIE i); RANGE.");
        ForeBook none = holding(10, 0);
        due.same("no ties", none.pumps(0, 10), 0);
        for (int broken = 0; broken < 30; broken++) {
            ForeBook x = holding(10, 0);
            for (int i = 0; i < 30; i++) {
                x.tie(i == broken ? 0 : 1, i == broken ? 1 : 0, 0);
            }
            due.same("tie " + broken + " alone", x.pumps(0, 10), 1 << broken);
        }
        ForeBook all = holding(10, 0);
        for (int i = 0; i < 30; i++) {
            all.tie(0, 1, 0);
        }
        due.same("all thirty", all.pumps(0, 10), (1 << 30) - 1);
    }

    private static void mendOfOneToFour() {
        due.sentence("MENDED: TENTHS for a set of at most 4 QUESTIONS");
        for (int set = 0; set < 64; set++) {
            ForeBook x = holding(0, 1, 2, 3, 4, 5);
            int many = Integer.bitCount(set);
            int want = many == 0 ? ForeBook.RANGE : many > 4 ? ForeBook.FULL : 0;
            due.same("mend of set " + set, x.mend(0, 10, set), want);
            for (int q = 0; q < 6; q++) {
                due.same("mended " + q + " of set " + set, x.mended(q),
                        want == 0 && (set >> q & 1) == 1 ? q : ForeBook.NONE);
            }
        }
    }

    private static void mendOfTheLastQuestions() {
        due.sentence("What a GUESSER HOLDS on a day of a set (bits) of QUESTIONS is MENDED: the least sum;");
        ForeBook x = Due.withQuestions(20);
        for (int q = 0; q < 20; q++) {
            x.guess(19, q, 10, 9);
        }
        x.tie(19, 16, 1);
        x.tie(17, 18, 1);
        due.same("the last four", x.mend(19, 10, 15 << 16), 16);
        int[] want = {1, 1, 9, 9};
        for (int i = 0; i < 4; i++) {
            due.same("mended " + (16 + i), x.mended(16 + i), want[i]);
        }
        due.same("the last one", x.mend(19, 10, 1 << 19), 0);
        due.same("mended 19", x.mended(19), 9);
        due.same("mended 16", x.mended(16), ForeBook.NONE);
        due.same("the first and the last", x.mend(19, 10, 1 << 19 | 1), 0);
        due.same("mended 0", x.mended(0), 9);
        due.same("one behind the last", x.mend(19, 10, 1 << 20), ForeBook.RANGE);
        due.same("all", x.mend(19, 10, (1 << 20) - 1), ForeBook.FULL);
    }

    private static void mendRefusalsInOrder() {
        due.sentence("RANGE: no such GUESSER, day, set (1 or more); FULL: more than 4; STATE: of one they HOLD nothing.");
        ForeBook x = Due.withQuestions(6);
        due.same("five and one that is none", x.mend(0, 10, 31 | 64), ForeBook.RANGE);
        due.same("five, no guesser", x.mend(20, 10, 31), ForeBook.RANGE);
        due.same("five, no day", x.mend(0, 1000, 31), ForeBook.RANGE);
        due.same("nothing held, no day", x.mend(0, -1, 1), ForeBook.RANGE);
        due.same("nothing held, no guesser", x.mend(-1, 10, 1), ForeBook.RANGE);
        due.same("five, nothing held", x.mend(0, 10, 31), ForeBook.FULL);
        due.same("six, nothing held", x.mend(0, 10, 63), ForeBook.FULL);
        due.same("four, nothing held", x.mend(0, 10, 15), ForeBook.STATE);
        due.same("one, nothing held", x.mend(0, 10, 1), ForeBook.STATE);
        due.same("below 0", x.mend(0, 10, -1), ForeBook.RANGE);
        due.same("the highest bit alone", x.mend(0, 10, Integer.MIN_VALUE), ForeBook.RANGE);
    }

    private static void mendOfWhatIsHeldThatDay() {
        due.sentence("of all of which they HOLD something");
        for (int missing = 0; missing < 4; missing++) {
            ForeBook x = Due.withQuestions(4);
            for (int q = 0; q < 4; q++) {
                x.guess(0, q, q == missing ? 15 : 12, q);
            }
            due.same("of one nothing yet", x.mend(0, 14, 15), ForeBook.STATE);
            due.same("but that", x.mend(0, 14, 15 & ~(1 << missing)), 0);
            due.same("that alone", x.mend(0, 14, 1 << missing), ForeBook.STATE);
            due.same("of all", x.mend(0, 15, 15), 0);
            due.same("of all, on the last of all days", x.mend(0, 999, 15), 0);
            due.same("of another guesser", x.mend(1, 15, 15), ForeBook.STATE);
        }
    }

    private static void mendEveryTieOfEveryTenth() {
        due.sentence("that break no TIE between two of it: the least sum of changes; of these the least row (by QUESTION).");
        for (int tie = 0; tie < 6; tie++) {
            for (int one = 0; one <= 10; one++) {
                for (int other = 0; other <= 10; other++) {
                    ForeBook x = holding(one, other);
                    x.tie(tie / 3, 1 - tie / 3, tie % 3);
                    int[] want = leastChange(tie % 3, tie / 3 == 1, one, other);
                    due.same("mend of " + one + " and " + other + " by tie " + tie, x.mend(0, 10, 3), want[0]);
                    due.mended(x, want[1], want[2]);
                }
            }
        }
    }

    /** Sum and tenths, tried one by one. */
    private static int[] leastChange(int kind, boolean back, int one, int other) {
        int[] best = {99, 0, 0};
        for (int first = 0; first <= 10; first++) {
            for (int second = 0; second <= 10; second++) {
                int sum = Math.abs(first - one) + Math.abs(second - other);
                boolean fits = back ? !breaks(kind, second, first) : !breaks(kind, first, second);
                if (fits && sum < best[0]) {
                    best = new int[] {sum, first, second};
                }
            }
        }
        return best;
    }

    private static void mendByTiesInsideTheSet() {
        due.sentence("that break no TIE between two of it");
        ForeBook x = holding(9, 9, 9, 9, 9);
        x.tie(0, 4, 1);
        x.tie(4, 1, 1);
        x.tie(2, 4, 1);
        due.same("all ties go out of it", x.mend(0, 10, 15), 0);
        due.mended(x, 9, 9, 9, 9, -1);
        due.same("one inside", x.mend(0, 10, 17), 8);
        due.mended(x, 1, -1, -1, -1, 9);
        due.same("three inside", x.mend(0, 10, 23), 8);
        due.mended(x, 9, 9, 9, -1, 1);
        due.same("all that go out of it are broken still", x.pumps(0, 10), 7);
    }

    private static void mendTakesTheLeastRow() {
        due.sentence("the least sum of changes; of these the least row (by QUESTION).");
        ForeBook x = holding(10, 10, 10, 10);
        for (int q = 0; q < 4; q++) {
            for (int r = q + 1; r < 4; r++) {
                x.tie(r, q, 1);
            }
        }
        due.same("not two of four", x.mend(0, 10, 15), 20);
        due.mended(x, 5, 5, 5, 5);
        due.same("not two of three", x.mend(0, 10, 7), 15);
        due.mended(x, 5, 5, 5);
        due.same("not both", x.mend(0, 10, 6), 10);
        due.mended(x, -1, 0, 10, -1);
        ForeBook y = holding(0, 0, 0, 0);
        y.tie(3, 0, 2);
        y.tie(1, 2, 2);
        due.same("one of two, twice", y.mend(0, 10, 15), 20);
        due.mended(y, 0, 0, 10, 10);
        ForeBook z = holding(10, 7, 3, 0);
        z.tie(0, 1, 0);
        z.tie(1, 2, 0);
        z.tie(2, 3, 0);
        due.same("each makes the next one sure", z.mend(0, 10, 15), 14);
        due.mended(z, 3, 3, 3, 3);
    }

    /** All tenths for four questions that hang together in a ring of all kinds. */
    private static void mendChainsOfFour() {
        due.sentence("MENDED: TENTHS for a set of at most 4 QUESTIONS");
        for (int row = 0; row < 81; row++) {
            int[] held = {row % 3 * 5, row / 3 % 3 * 5, row / 9 % 3 * 5, row / 27 * 5};
            ForeBook x = holding(held);
            NaiveBook naive = new NaiveBook();
            for (int q = 0; q < 4; q++) {
                naive.questions.add(new int[] {10, 19, 3, -1});
                naive.guess(0, q, 10, held[q]);
            }
            int[][] ties = {{1, 0, 0}, {1, 2, 1}, {3, 2, 2}, {0, 3, 1}};
            for (int[] tie : ties) {
                x.tie(tie[0], tie[1], tie[2]);
                naive.ties.add(tie);
            }
            due.same("mend of row " + row, x.mend(0, 10, 15), naive.mend(0, 10, 15));
            due.mended(x, naive.mended[0], naive.mended[1], naive.mended[2], naive.mended[3]);
        }
    }

    private static void mendedOfTheLatestThatToldASum() {
        due.sentence("The TENTH of QUESTION q by the latest mend() that told a sum; NONE.");
        ForeBook x = holding(9, 9, 9, 9, 9);
        due.mended(x, -1, -1, -1, -1, -1);
        due.same("refused", x.mend(0, 10, 31), ForeBook.FULL);
        due.mended(x, -1, -1, -1, -1, -1);
        x.tie(0, 1, 1);
        due.same("two", x.mend(0, 10, 3), 8);
        due.mended(x, 1, 9, -1, -1, -1);
        due.same("FULL", x.mend(0, 10, 31), ForeBook.FULL);
        due.same("RANGE", x.mend(0, 10, 0), ForeBook.RANGE);
        due.same("RANGE", x.mend(0, 1000, 12), ForeBook.RANGE);
        due.same("RANGE", x.mend(20, 10, 12), ForeBook.RANGE);
        due.same("STATE", x.mend(0, 9, 12), ForeBook.STATE);
        due.same("STATE", x.mend(1, 10, 12), ForeBook.STATE);
        due.mended(x, 1, 9, -1, -1, -1);
        x.guess(0, 0, 11, 0);
        x.tell(0, 2, 0);
        x.rules();
        due.mended(x, 1, 9, -1, -1, -1);
        due.same("two others", x.mend(0, 11, 12), 0);
        due.mended(x, -1, -1, 9, 9, -1, -1);
        due.same("below all questions", x.mended(-1), ForeBook.NONE);
        due.same("far off", x.mended(Integer.MIN_VALUE), ForeBook.NONE);
        due.same("far off", x.mended(Integer.MAX_VALUE), ForeBook.NONE);
    }

    private static void mendLeavesWhatIsHeld() {
        due.sentence("What a GUESSER HOLDS on a day of a set (bits) of QUESTIONS is MENDED: the least sum;");
        ForeBook x = holding(9, 9);
        x.tie(0, 1, 1);
        due.same("mend", x.mend(0, 10, 3), 8);
        due.same("held", x.holds(0, 0, 10), 9);
        due.same("held", x.holds(0, 1, 10), 9);
        due.same("guesses", x.count(1), 2);
        due.same("pumps", x.pumps(0, 10), 1);
        due.same("the same again", x.mend(0, 10, 3), 8);
        x.tell(0, 2, 0);
        x.tell(1, 1, 10);
        due.same("of those that are told, too", x.mend(0, 10, 3), 8);
        due.same("pumps, too", x.pumps(0, 10), 1);
    }
}
