/** Runs of calls, many kinds of them, on a ForeBook and on the plain words of the document. */
public final class ModelTest {
    private static final Due due = new Due("ModelTest");

    private long seed;
    private ForeBook book;
    private NaiveBook naive;
    private int guessers;
    private int tenths;
    private int calls;
    private String run;

    public static void main(String[] args) {
        for (int run = 0; run < 400; run++) {
            new ModelTest().play(run);
        }
        due.finish();
    }

    private int below(int bound) {
        seed = seed * 6364136223846793005L + 1442695040888963407L;
        return (int) ((seed >>> 33) % bound);
    }

    private void play(int number) {
        seed = 77 + number;
        below(1);
        run = "run " + number + " ";
        book = new ForeBook();
        naive = new NaiveBook();
        guessers = 1 + below(number % 4 == 0 ? 20 : 5);
        tenths = 1 + below(11);
        int few = 1 + below(6);
        for (int i = 0; i < few; i++) {
            addQuestion();
        }
        int most = 60 + below(430);
        while (calls < most) {
            step();
        }
    }

    private void same(String call, long got, long want) {
        calls++;
        due.same(run + "call " + calls + " " + call, got, want);
    }

    private void step() {
        int kind = below(100);
        if (kind < 45) {
            guess();
        } else if (kind < 53) {
            tell();
        } else if (kind < 55) {
            setRules();
        } else if (kind < 58) {
            addTie();
        } else if (kind < 60) {
            addQuestion();
        } else if (kind < 75) {
            askCosts();
        } else if (kind < 90) {
            askJoined();
        } else {
            askTies();
        }
    }

    private int anyQuestion() {
        return below(naive.questions.size());
    }

    private int dayNear(int q) {
        int from = naive.questions.get(q)[0];
        int to = naive.questions.get(q)[1];
        return Math.max(0, Math.min(999, from - 2 + below(to - from + 8)));
    }

    private void addQuestion() {
        if (naive.questions.size() >= 20) {
            same("question", book.question(1, 2), ForeBook.FULL);
            return;
        }
        int from = below(40);
        int to = from + below(below(3) == 0 ? 60 : 12);
        same("question " + from + " " + to, book.question(from, to), naive.questions.size());
        naive.questions.add(new int[] {from, to, 3, -1});
    }

    private void guess() {
        int g = below(guessers);
        int q = anyQuestion();
        int[] last = naive.latest(g, q, 999);
        int[] on = naive.questions.get(q);
        int day = last != null && below(3) > 0 ? last[2] + below(4) : on[0] + below(on[1] - on[0] + 1);
        int tenth = below(tenths);
        int copied = naive.holds(below(guessers), q, Math.max(0, day - 1));
        tenth = copied != -1 && below(2) == 0 ? copied : tenth;
        same("guess " + g + " " + q + " " + day + " " + tenth, book.guess(g, q, day, tenth),
                naive.guess(g, q, day, tenth));
    }

    private void tell() {
        int q = anyQuestion();
        int how = below(4);
        int[] on = naive.questions.get(q);
        int known = how < 2 ? on[0] + below(on[1] - on[0] + 4) : 0;
        same("tell " + q + " " + how + " " + known, book.tell(q, how, known), on[2]);
        on[2] = how;
        on[3] = how < 2 ? known : -1;
    }

    private void setRules() {
        StringBuilder text = new StringBuilder();
        int[] yes = {100, 81, 64, 49, 36, 25, 16, 9, 4, 1, 0};
        int[] no = {0, 1, 4, 9, 16, 25, 36, 49, 64, 81, 100};
        naive.yes = below(4) == 0 ? anyCosts("yes", text) : yes;
        naive.half = below(2) == 0;
        text.append(naive.half ? "missing half;" : below(2) == 0 ? "missing skip;" : "");
        naive.past = below(3) > 0;
        text.append(naive.past ? "weights past;" : "");
        naive.no = below(4) == 0 ? anyCosts("no", text) : no;
        naive.least = below(2) == 0 ? 1 : 1 + below(8);
        text.append(naive.least > 1 ? "least " + naive.least + ";" : "");
        naive.copyDays = -1;
        naive.copyTimes = -1;
        if (below(3) > 0) {
            naive.copyDays = 1 + below(8);
            naive.copyTimes = 1 + below(5);
            text.append("copy ").append(naive.copyDays).append(' ').append(naive.copyTimes).append(';');
        }
        Due.feed(book, text.toString());
        calls += text.length() / 20 + 2;
        same("rules", book.rules(), text.chars().filter(c -> c == ';').count());
    }

    private int[] anyCosts(String word, StringBuilder text) {
        int[] costs = new int[11];
        int bound = below(2) == 0 ? 4 : 1001;
        text.append(word);
        for (int t = 0; t <= 10; t++) {
            costs[t] = below(bound);
            text.append(' ').append(costs[t]);
        }
        text.append(';');
        return costs;
    }

    private void addTie() {
        int q = anyQuestion();
        int r = anyQuestion();
        int kind = below(3);
        if (q == r || naive.ties.size() >= 30) {
            same("tie", book.tie(q, r, kind), q == r ? ForeBook.RANGE : ForeBook.FULL);
            return;
        }
        same("tie", book.tie(q, r, kind), naive.ties.size());
        naive.ties.add(new int[] {q, r, kind});
    }

    private void askCosts() {
        int g = below(guessers);
        int q = anyQuestion();
        int day = dayNear(q);
        int what = below(2);
        same("holds " + g + " " + q + " " + day, book.holds(g, q, day), naive.holds(g, q, day));
        same("rows " + g + " " + q + " " + what, book.rows(g, q, what), naive.rows(g, q, what));
        same("mean " + g + " " + what, book.mean(g, what), naive.mean(g, what));
        java.util.List<Integer> ranked = naive.ranked();
        int i = below(ranked.size() + 1);
        same("ranked " + i, book.ranked(i), i < ranked.size() ? ranked.get(i) : -1);
        same("count 4", book.count(4), ranked.size());
        int k = below(11);
        same("pays " + k, book.pays(k), naive.pays(k));
        same("honest", book.honest(), naive.honest());
    }

    private void askJoined() {
        int g = below(guessers);
        int of = below(20);
        int q = anyQuestion();
        int day = below(5) == 0 ? below(150) : dayNear(q);
        if (g != of) {
            same("copies " + g + " " + of, book.copies(g, of),
                    naive.copyDays == -1 ? ForeBook.STATE : naive.copies(g, of, 999));
        }
        same("weight " + g + " " + day, book.weight(g, day), naive.weight(g, day));
        same("joined " + q + " " + day, book.joined(q, day), naive.joined(q, day));
        if (below(6) == 0) {
            int what = below(2);
            same("together " + q + " " + what, book.together(q, what), naive.together(q, what));
        }
        if (below(20) == 0) {
            int what = below(3);
            same("luck " + g + " " + what, book.luck(g, what), naive.luck(g, what));
        }
    }

    private void askTies() {
        int g = below(guessers);
        int day = dayNear(anyQuestion());
        same("pumps " + g + " " + day, book.pumps(g, day), naive.pumps(g, day));
        int set = 0;
        for (int q = 0; q < naive.questions.size(); q++) {
            boolean wanted = naive.holds(g, q, day) != -1 && below(2) == 0 || below(15) == 0;
            set |= wanted && Integer.bitCount(set) < 5 ? 1 << q : 0;
        }
        if (set != 0) {
            same("mend " + g + " " + day + " " + set, book.mend(g, day, set), naive.mend(g, day, set));
        }
        for (int q = 0; q < naive.questions.size(); q++) {
            same("mended " + q, book.mended(q), naive.mended[q]);
        }
    }
}
