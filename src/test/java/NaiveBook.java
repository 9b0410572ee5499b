import java.util.ArrayList;
import java.util.List;

/**
 * The document's words, one after the other, with nothing kept and nothing made fast: what ForeBook
 * answers is held against it. Bytes of the tape, and arguments out of range, are others' tests.
 */
final class NaiveBook {
    int[] yes = {100, 81, 64, 49, 36, 25, 16, 9, 4, 1, 0};
    int[] no = {0, 1, 4, 9, 16, 25, 36, 49, 64, 81, 100};
    boolean half;
    boolean past;
    int copyDays = -1;
    int copyTimes = -1;
    int least = 1;

    /** from, to, how, known. */
    final List<int[]> questions = new ArrayList<>();
    /** guesser, question, day, tenth. */
    final List<int[]> guesses = new ArrayList<>();
    /** first, second, kind. */
    final List<int[]> ties = new ArrayList<>();
    final int[] mended = new int[20];

    NaiveBook() {
        java.util.Arrays.fill(mended, -1);
    }

    int cost(int q, int tenth) {
        return questions.get(q)[2] == 1 ? yes[tenth] : no[tenth];
    }

    boolean settled(int q) {
        return questions.get(q)[2] <= 1;
    }

    int guess(int g, int q, int day, int tenth) {
        int[] on = questions.get(q);
        if (day < on[0] || day > on[1]) {
            return -2;
        }
        for (int[] x : guesses) {
            if (x[0] == g && x[1] == q && x[2] > day) {
                return -4;
            }
        }
        if (on[2] != 3) {
            return -4;
        }
        if (guesses.size() == 300) {
            return -3;
        }
        guesses.add(new int[] {g, q, day, tenth});
        return guesses.size() - 1;
    }

    int[] latest(int g, int q, int day) {
        int[] found = null;
        for (int[] x : guesses) {
            if (x[0] == g && x[1] == q && x[2] <= day && (found == null || x[2] >= found[2])) {
                found = x;
            }
        }
        return found;
    }

    int holds(int g, int q, int day) {
        int[] found = latest(g, q, day);
        return found == null ? -1 : found[3];
    }

    boolean everGuessed(int g, int q) {
        return latest(g, q, 999) != null;
    }

    /** The cost of a day, or -1 if it is no row. */
    int row(int g, int q, int day) {
        int[] on = questions.get(q);
        if (!settled(q) || day < on[0] || day > on[1] || day >= on[3] || !everGuessed(g, q)) {
            return -1;
        }
        int held = holds(g, q, day);
        if (held == -1) {
            return half ? cost(q, 5) : -1;
        }
        return cost(q, held);
    }

    int rows(int g, int q, int what) {
        int many = 0;
        int sum = 0;
        for (int day = questions.get(q)[0]; day <= questions.get(q)[1]; day++) {
            int row = row(g, q, day);
            if (row >= 0) {
                many++;
                sum += row;
            }
        }
        return what == 0 ? many : sum;
    }

    boolean counts(int g, int q) {
        return settled(q) && rows(g, q, 0) >= least;
    }

    /** Sum and number of rows, not cut. */
    long[] total(int g) {
        long[] total = new long[2];
        for (int q = 0; q < questions.size(); q++) {
            if (counts(g, q)) {
                total[0] += rows(g, q, 1);
                total[1] += rows(g, q, 0);
            }
        }
        return total;
    }

    int mean(int g, int what) {
        long[] total = total(g);
        for (long by = 2; by <= total[1]; by++) {
            while (total[0] % by == 0 && total[1] % by == 0) {
                total[0] /= by;
                total[1] /= by;
            }
        }
        return (int) total[what];
    }

    List<Integer> ranked() {
        List<Integer> found = new ArrayList<>();
        for (int g = 0; g < 20; g++) {
            if (total(g)[1] > 0) {
                found.add(g);
            }
        }
        found.sort((a, b) -> Long.compare(total(a)[0] * total(b)[1], total(b)[0] * total(a)[1]));
        return found;
    }

    int expected(int k, int t) {
        return k * yes[t] + (10 - k) * no[t];
    }

    int pays(int k) {
        int best = 0;
        for (int t = 0; t <= 10; t++) {
            best = expected(k, t) < expected(k, best) ? t : best;
        }
        return best;
    }

    int honest() {
        for (int k = 0; k <= 10; k++) {
            for (int t = 0; t <= 10; t++) {
                if (t != k && expected(k, t) <= expected(k, k)) {
                    return k;
                }
            }
        }
        return -1;
    }

    int copies(int g, int of, int upTo) {
        int found = 0;
        for (int[] x : guesses) {
            if (x[0] == g && x[2] <= upTo) {
                int[] seen = latest(of, x[1], x[2] - 1);
                if (seen != null && seen[3] == x[3] && x[2] - seen[2] >= 1 && x[2] - seen[2] <= copyDays) {
                    found++;
                }
            }
        }
        return found;
    }

    int weight(int g, int day) {
        if (!past) {
            return 1;
        }
        long plain = 0;
        long paid = 0;
        for (int q = 0; q < questions.size(); q++) {
            if (counts(g, q) && questions.get(q)[3] < day) {
                plain += (long) rows(g, q, 0) * cost(q, 5);
                paid += rows(g, q, 1);
            }
        }
        return plain == 0 || paid > plain ? 1 : (int) (1 + 100 * (plain - paid) / plain);
    }

    boolean leftOut(int g, int q, int day) {
        for (int of = 0; of < 20; of++) {
            if (copyDays != -1 && of != g && holds(of, q, day) != -1 && copies(g, of, day) >= copyTimes) {
                return true;
            }
        }
        return false;
    }

    int joined(int q, int day) {
        int[] weights = new int[11];
        int all = 0;
        for (int g = 0; g < 20; g++) {
            int held = holds(g, q, day);
            if (held != -1 && !leftOut(g, q, day)) {
                weights[held] += weight(g, day);
                all += weight(g, day);
            }
        }
        int upTo = 0;
        for (int t = 0; t <= 10; t++) {
            upTo += weights[t];
            if (all > 0 && 2 * upTo >= all) {
                return t;
            }
        }
        return -1;
    }

    int together(int q, int what) {
        int[] on = questions.get(q);
        int many = 0;
        int sum = 0;
        for (int day = on[0]; settled(q) && day <= on[1] && day < on[3]; day++) {
            int tenth = joined(q, day);
            if (tenth != -1) {
                many++;
                sum += cost(q, tenth);
            }
        }
        return what == 0 ? many : sum;
    }

    long luck(int g, int what) {
        int unlike = 0;
        int better = 0;
        for (int q = 0; q < questions.size(); q++) {
            int own = 0;
            int other = 0;
            for (int day = questions.get(q)[0]; counts(g, q) && day <= questions.get(q)[1]; day++) {
                int row = row(g, q, day);
                int tenth = row < 0 ? -1 : joined(q, day);
                if (tenth != -1) {
                    own += row;
                    other += cost(q, tenth);
                }
            }
            unlike += own != other ? 1 : 0;
            better += own < other ? 1 : 0;
        }
        if (what < 2) {
            return what == 0 ? unlike : better;
        }
        long found = 0;
        for (int row = 0; row < 1 << unlike; row++) {
            found += Integer.bitCount(row) >= better ? 1 : 0;
        }
        return found;
    }

    static boolean breaks(int kind, int one, int other) {
        return kind == 0 ? one > other : kind == 1 ? one + other > 10 : one + other < 10;
    }

    int pumps(int g, int day) {
        int bits = 0;
        for (int i = 0; i < ties.size(); i++) {
            int one = holds(g, ties.get(i)[0], day);
            int other = holds(g, ties.get(i)[1], day);
            if (one != -1 && other != -1 && breaks(ties.get(i)[2], one, other)) {
                bits |= 1 << i;
            }
        }
        return bits;
    }

    int mend(int g, int day, int set) {
        List<Integer> members = new ArrayList<>();
        for (int q = 0; q < questions.size(); q++) {
            if ((set >> q & 1) == 1) {
                members.add(q);
            }
        }
        if (members.size() > 4) {
            return -3;
        }
        for (int q : members) {
            if (holds(g, q, day) == -1) {
                return -4;
            }
        }
        int rows = 1;
        for (int i = 0; i < members.size(); i++) {
            rows *= 11;
        }
        int best = Integer.MAX_VALUE;
        for (int row = 0; row < rows; row++) {
            int[] tenths = tenthsOf(row, members);
            int sum = 0;
            for (int q : members) {
                sum += Math.abs(tenths[q] - holds(g, q, day));
            }
            if (sum < best && fits(tenths)) {
                best = sum;
                System.arraycopy(tenths, 0, mended, 0, 20);
            }
        }
        return best;
    }

    /** The row-th row of tenths, the first question's tenth being the highest digit. */
    private static int[] tenthsOf(int row, List<Integer> members) {
        int[] tenths = new int[20];
        java.util.Arrays.fill(tenths, -1);
        int rest = row;
        for (int i = members.size() - 1; i >= 0; i--) {
            tenths[members.get(i)] = rest % 11;
            rest /= 11;
        }
        return tenths;
    }

    private boolean fits(int[] tenths) {
        for (int[] tie : ties) {
            int one = tenths[tie[0]];
            int other = tenths[tie[1]];
            if (one != -1 && other != -1 && breaks(tie[2], one, other)) {
                return false;
            }
        }
        return true;
    }
}
