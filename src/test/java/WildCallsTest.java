/** No call throws or fails to end, for any arguments in any state; what is refused changes nothing. */
public final class WildCallsTest {
    private static final Due due = new Due("WildCallsTest");
    private static final int[] EDGES = {Integer.MIN_VALUE, Integer.MIN_VALUE + 1, -1001, -10, -9, -4, -3, -2, -1, 0, 1,
        2, 3, 4, 5, 9, 10, 11, 19, 20, 21, 30, 40, 41, 59, 60, 61, 299, 300, 480, 500, 501, 998, 999, 1000, 1001,
        0x3B3B3B3B, 0x6C656173, 0x74203939, 0x7FFFFFFE, Integer.MAX_VALUE};

    private static long seed = 5;

    public static void main(String[] args) {
        for (int run = 0; run < 600; run++) {
            play(run);
        }
        due.finish();
    }

    private static int below(int bound) {
        seed = seed * 6364136223846793005L + 1442695040888963407L;
        return (int) ((seed >>> 33) % bound);
    }

    /** Wild at times, else small, so that runs come deep into the book too. */
    private static int any(int bound) {
        return below(12) == 0 ? EDGES[below(EDGES.length)] : below(bound);
    }

    private static void play(int run) {
        ForeBook x = new ForeBook();
        for (int call = 0; call < 512; call++) {
            int kind = below(call < 40 ? 8 : 26);
            try {
                long got = call(x, kind);
                due.holds("an answer of call " + kind, got >= -9);
            } catch (RuntimeException | Error thrown) {
                due.same("run " + run + " call " + kind + " threw " + thrown, 1, 0);
                return;
            }
        }
    }

    private static long call(ForeBook x, int kind) {
        switch (kind) {
            case 0: return x.question(any(30), any(60));
            case 1: return x.feed(any(9), any(9), any(9), any(9), any(9));
            case 2: return x.tie(any(6), any(6), any(3));
            case 3: case 4: case 5: return x.guess(any(20), any(6), any(60), any(11));
            case 6: return rulesAtRandom(x);
            case 7: return x.end(any(30));
            case 8: return x.tell(any(6), any(4), below(2) == 0 ? 0 : any(60));
            case 9: return x.rules();
            case 10: return x.fault(any(3));
            case 11: return x.rule(any(42));
            case 12: return x.holds(any(20), any(6), any(70));
            case 13: return x.rows(any(20), any(6), any(2));
            case 14: return x.mean(any(20), any(2));
            case 15: return x.ranked(any(20));
            case 16: return x.pays(any(11)) + x.honest() + 3;
            case 17: return x.copies(any(20), any(20));
            case 18: return x.weight(any(20), any(90));
            case 19: return x.joined(any(6), any(90));
            case 20: return x.together(any(6), any(2));
            case 21: return x.luck(any(20), any(3));
            case 22: return x.pumps(any(20), any(90));
            case 23: return x.mend(any(20), any(90), any(64));
            case 24: return x.mended(any(20));
            default: return x.about(any(20), any(5)) + x.count(any(5)) + 2;
        }
    }

    private static long rulesAtRandom(ForeBook x) {
        String[] parts = {"yes", "no", "missing", "weights", "copy", "least", "skip", "half", "alike", "past", ";", " ",
            "1 2 3 4 5 6 7 8 9 10 11", "0", "99", "30", "100", "12345", ".", "\n", "missing half;", "weights past;",
            "copy 3 1;", "least 2;"};
        StringBuilder text = new StringBuilder();
        int many = below(12);
        for (int i = 0; i < many; i++) {
            text.append(parts[below(parts.length)]);
        }
        x.end(0);
        return Due.rules(x, text.toString());
    }
}
