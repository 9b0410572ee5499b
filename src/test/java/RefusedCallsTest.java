import java.util.ArrayList;
import java.util.List;

/**
 * What a refused call, or one that only asks, leaves as it was: all answers of a book behind it are
 * those of the same book without it.
 */
public final class RefusedCallsTest {
    private static final Due due = new Due("RefusedCallsTest");

    private interface Ask {
        long of(ForeBook x);
    }

    private interface Story {
        ForeBook make();
    }

    /** As many asks as an object bears behind the longest story, within its 512 calls. */
    private static final int ASKS_OF_ONE_OBJECT = 100;
    private static final int[] DAYS = {0, 9, 10, 12, 13, 15, 16, 20, 31, 999};

    private static final List<String> names = new ArrayList<>();
    private static final List<Ask> asks = new ArrayList<>();
    private static final List<String> faultNames = new ArrayList<>();

    public static void main(String[] args) {
        collectAsks();
        collectNextSteps();
        refusedByTexts();
        refusedByQuestionsAndGuesses();
        refusedByAsking();
        refusedByTies();
        refusedByFullBooks();
        refusedWithoutCopy();
        askingChangesNothing();
        rulesStayWithAFault();
        due.finish();
    }

    private static void ask(String name, Ask ask) {
        names.add(name);
        asks.add(ask);
    }

    private static void collectAsks() {
        for (int what = 0; what <= 4; what++) {
            int w = what;
            ask("count " + w, x -> x.count(w));
            ask("rule " + w, x -> x.rule(w));
            for (int q = 0; q < 4; q++) {
                int on = q;
                ask("about " + on + " " + w, x -> x.about(on, w));
            }
        }
        for (int t = 0; t <= 10; t++) {
            int tenth = t;
            ask("rule yes " + t, x -> x.rule(10 + tenth));
            ask("rule no " + t, x -> x.rule(30 + tenth));
            ask("pays " + t, x -> x.pays(tenth));
        }
        ask("honest", ForeBook::honest);
        for (int q = 0; q < 4; q++) {
            collectAsksOfQuestion(q);
        }
        for (int g = 0; g < 5; g++) {
            collectAsksOfGuesser(g);
        }
        collectAsksOfGuesser(19);
        for (int q = 0; q < 20; q++) {
            int on = q;
            ask("mended " + q, x -> x.mended(on));
            ask("ranked " + q, x -> x.ranked(on));
        }
        ask("fault 0", x -> x.fault(0));
        ask("fault 1", x -> x.fault(1));
        faultNames.addAll(List.of("fault 0", "fault 1"));
    }

    private static void collectAsksOfQuestion(int q) {
        for (int what = 0; what <= 1; what++) {
            int w = what;
            ask("together " + q + " " + w, x -> x.together(q, w));
        }
        for (int day : DAYS) {
            ask("joined " + q + " " + day, x -> x.joined(q, day));
        }
    }

    private static void collectAsksOfGuesser(int g) {
        for (int what = 0; what <= 2; what++) {
            int w = what;
            ask("luck " + g + " " + w, x -> x.luck(g, w));
            ask("mean " + g + " " + w, x -> x.mean(g, w));
            ask("rows " + g + " 0 " + w, x -> x.rows(g, 0, w));
            ask("rows " + g + " 1 " + w, x -> x.rows(g, 1, w));
        }
        for (int of = 0; of < 20; of++) {
            int other = of;
            ask("copies " + g + " " + of, x -> x.copies(g, other));
        }
        for (int day : DAYS) {
            ask("weight " + g + " " + day, x -> x.weight(g, day));
            ask("pumps " + g + " " + day, x -> x.pumps(g, day));
            for (int q = 0; q < 4; q++) {
                int on = q;
                ask("holds " + g + " " + q + " " + day, x -> x.holds(g, on, day));
            }
        }
    }

    /** Calls that go on with the book: each is asked on an object of its own, as it changes that. */
    private static final List<Ask> nextSteps = new ArrayList<>();

    private static void collectNextSteps() {
        nextSteps.add(x -> x.feed(0, 0, 0, 0, 0));
        nextSteps.add(ForeBook::rules);
        nextSteps.add(x -> x.rules() * 10000L + x.rule(2) * 1000 + x.rule(4) * 10 + x.rule(0));
        nextSteps.add(x -> x.rules() * 10000L + x.fault(0) * 1000 + x.fault(1));
        nextSteps.add(x -> x.question(3, 4));
        nextSteps.add(x -> x.tell(0, 3, 0));
        nextSteps.add(x -> x.tell(1, 3, 0));
        nextSteps.add(x -> x.tell(2, 1, 35));
        nextSteps.add(x -> x.guess(0, 2, 31, 4));
        nextSteps.add(x -> x.guess(0, 2, 30, 4));
        nextSteps.add(x -> x.guess(3, 2, 35, 4));
        nextSteps.add(x -> x.tie(0, 1, 2));
        nextSteps.add(x -> x.mend(0, 31, 7));
    }

    /** Four questions, of which one is YES, one NO, two are open; rules of all kinds; a tape that waits. */
    private static ForeBook busyBook() {
        ForeBook x = new ForeBook();
        Due.rules(x, "least 0;");
        Due.rules(x, "missing half;weights past;copy 2 2;least 2;no 0 2 4 9 16 25 36 49 64 81 100;");
        tellGuesses(x);
        Due.rules(x, "copy 2 2;missing skip;least 0;");
        Due.feed(x, "missing half;least 3;");
        return x;
    }

    private static void tellGuesses(ForeBook x) {
        x.question(9, 19);
        x.question(10, 15);
        x.question(30, 35);
        x.question(0, 59);
        int[][] guesses = {{0, 0, 9, 7}, {1, 0, 10, 3}, {2, 0, 10, 7}, {0, 1, 12, 2}, {2, 1, 13, 2}, {19, 0, 16, 10},
            {19, 1, 10, 0}, {0, 2, 31, 9}, {1, 2, 30, 6}, {2, 2, 32, 9}, {0, 3, 0, 9}, {0, 3, 20, 4}, {1, 3, 13, 8}};
        for (int[] w : guesses) {
            x.guess(w[0], w[1], w[2], w[3]);
        }
        x.tie(0, 1, 0);
        x.tie(1, 2, 2);
        x.tie(0, 3, 1);
        x.tell(0, 1, 18);
        x.tell(1, 0, 15);
        x.mend(0, 12, 11);
    }

    /** As much of everything as there can be. */
    private static ForeBook fullBook() {
        ForeBook x = new ForeBook();
        tellGuesses(x);
        for (int q = 4; q < 20; q++) {
            x.question(10, 19);
        }
        for (int i = 13; i < 300; i++) {
            x.guess(i % 20, 4 + i % 16, 10, i % 11);
        }
        for (int i = 3; i < 30; i++) {
            x.tie(i % 20, (i + 7) % 20, i % 3);
        }
        for (int i = 0; i < 25; i++) {
            x.feed(0x20202020, 0x20202020, 0x20202020, 0x20202020, 0x20202020);
        }
        return x;
    }

    private static void refused(Story story, String name, long want, Ask call) {
        due.same(name, call.of(story.make()), want);
        leaves(story, name, call);
    }

    private static void leaves(Story story, String name, Ask call) {
        for (int from = 0; from < asks.size(); from += ASKS_OF_ONE_OBJECT) {
            ForeBook plain = story.make();
            ForeBook changed = story.make();
            call.of(changed);
            for (int i = from; i < asks.size() && i < from + ASKS_OF_ONE_OBJECT; i++) {
                due.same(names.get(i) + " behind " + name, asks.get(i).of(changed), asks.get(i).of(plain));
            }
        }
        for (int i = 0; i < nextSteps.size(); i++) {
            ForeBook changed = story.make();
            call.of(changed);
            due.same("next step " + i + " behind " + name, nextSteps.get(i).of(changed), nextSteps.get(i).of(story.make()));
        }
    }

    private static void busy(String name, long want, Ask call) {
        refused(RefusedCallsTest::busyBook, name, want, call);
    }

    private static void refusedByTexts() {
        due.sentence("n; NONE when it has not so many, or n is below 0.");
        busy("end(-1)", ForeBook.NONE, x -> x.end(-1));
        busy("end(22)", ForeBook.NONE, x -> x.end(22));
        due.sentence("NONE for another what.");
        busy("fault(2)", ForeBook.NONE, x -> x.fault(2));
        due.sentence("-9 for another what.");
        busy("rule(5)", -9, x -> x.rule(5));
    }

    private static void refusedByQuestionsAndGuesses() {
        long range = ForeBook.RANGE;
        due.sentence("A QUESTION comes: its number; RANGE; FULL.");
        busy("question(-1, 5)", range, x -> x.question(-1, 5));
        busy("question(5, 4)", range, x -> x.question(5, 4));
        busy("question(0, 60)", range, x -> x.question(0, 60));
        busy("question(999, 1000)", range, x -> x.question(999, 1000));
        due.sentence("what it was (0 .. 3); RANGE.");
        busy("tell(-1, 2, 0)", range, x -> x.tell(-1, 2, 0));
        busy("tell(4, 2, 0)", range, x -> x.tell(4, 2, 0));
        busy("tell(0, -1, 0)", range, x -> x.tell(0, -1, 0));
        busy("tell(0, 4, 0)", range, x -> x.tell(0, 4, 0));
        busy("tell(0, 0, 8)", range, x -> x.tell(0, 0, 8));
        busy("tell(0, 1, 1000)", range, x -> x.tell(0, 1, 1000));
        busy("tell(0, 2, 18)", range, x -> x.tell(0, 2, 18));
        busy("tell(0, 3, 18)", range, x -> x.tell(0, 3, 18));
        due.sentence("RANGE: no such GUESSER, QUESTION, TENTH, day on which it is open;");
        busy("guess(-1, 2, 33, 5)", range, x -> x.guess(-1, 2, 33, 5));
        busy("guess(20, 2, 33, 5)", range, x -> x.guess(20, 2, 33, 5));
        busy("guess(0, 4, 33, 5)", range, x -> x.guess(0, 4, 33, 5));
        busy("guess(0, 2, 33, 11)", range, x -> x.guess(0, 2, 33, 11));
        busy("guess(0, 2, 33, -1)", range, x -> x.guess(0, 2, 33, -1));
        busy("guess(0, 2, 36, 5)", range, x -> x.guess(0, 2, 36, 5));
        busy("guess(3, 2, 29, 5)", range, x -> x.guess(3, 2, 29, 5));
        due.sentence("STATE: it has a later GUESS of theirs, or isn't one that is not told yet; FULL.");
        busy("guess(0, 2, 30, 5)", ForeBook.STATE, x -> x.guess(0, 2, 30, 5));
        busy("guess(0, 0, 19, 5)", ForeBook.STATE, x -> x.guess(0, 0, 19, 5));
        busy("guess(3, 1, 15, 5)", ForeBook.STATE, x -> x.guess(3, 1, 15, 5));
    }

    private static void refusedByAsking() {
        due.sentence("`RANGE = -2`: A number that can't be.");
        long range = ForeBook.RANGE;
        busy("holds(0, 0, 1000)", range, x -> x.holds(0, 0, 1000));
        busy("rows(0, 0, 2)", range, x -> x.rows(0, 0, 2));
        busy("mean(20, 0)", range, x -> x.mean(20, 0));
        busy("pays(11)", range, x -> x.pays(11));
        busy("copies(0, 0)", range, x -> x.copies(0, 0));
        busy("weight(0, -1)", range, x -> x.weight(0, -1));
        busy("joined(4, 12)", range, x -> x.joined(4, 12));
        busy("together(0, 2)", range, x -> x.together(0, 2));
        busy("luck(0, 3)", range, x -> x.luck(0, 3));
        busy("pumps(0, 1000)", range, x -> x.pumps(0, 1000));
        due.sentence("`NONE = -1`: There is none.");
        busy("ranked(20)", ForeBook.NONE, x -> x.ranked(20));
        busy("mended(20)", ForeBook.NONE, x -> x.mended(20));
        busy("about(4, 0)", ForeBook.NONE, x -> x.about(4, 0));
        busy("count(5)", ForeBook.NONE, x -> x.count(5));
    }

    private static void refusedByTies() {
        due.sentence("A TIE of two QUESTIONS (unlike), kind 0 .. 2: its number; RANGE; FULL.");
        busy("tie(0, 0, 0)", ForeBook.RANGE, x -> x.tie(0, 0, 0));
        busy("tie(0, 4, 0)", ForeBook.RANGE, x -> x.tie(0, 4, 0));
        busy("tie(0, 1, 3)", ForeBook.RANGE, x -> x.tie(0, 1, 3));
        due.sentence("RANGE: no such GUESSER, day, set (1 or more); FULL: more than 4; STATE: of one they HOLD nothing.");
        busy("mend(0, 31, 0)", ForeBook.RANGE, x -> x.mend(0, 31, 0));
        busy("mend(0, 31, 16)", ForeBook.RANGE, x -> x.mend(0, 31, 16));
        busy("mend(20, 31, 4)", ForeBook.RANGE, x -> x.mend(20, 31, 4));
        busy("mend(0, 1000, 4)", ForeBook.RANGE, x -> x.mend(0, 1000, 4));
        busy("mend(0, 30, 14)", ForeBook.STATE, x -> x.mend(0, 30, 14));
        busy("mend(3, 31, 1)", ForeBook.STATE, x -> x.mend(3, 31, 1));
    }

    private static void refusedByFullBooks() {
        due.sentence("`FULL = -3`: No room.");
        Story full = RefusedCallsTest::fullBook;
        due.same("a mended question of a full book", full.make().mended(0), busyBook().mended(0));
        refused(full, "feed", ForeBook.FULL, x -> x.feed(0, 0, 0, 0, 0));
        refused(full, "question(3, 4)", ForeBook.FULL, x -> x.question(3, 4));
        refused(full, "guess(0, 2, 35, 4)", ForeBook.FULL, x -> x.guess(0, 2, 35, 4));
        refused(full, "tie(0, 1, 2)", ForeBook.FULL, x -> x.tie(0, 1, 2));
        refused(full, "mend(0, 31, 31)", ForeBook.FULL, x -> x.mend(0, 31, 31));
    }

    private static void refusedWithoutCopy() {
        due.sentence("STATE: there is no copy.");
        refused(RefusedCallsTest::fullBook, "copies(0, 1)", ForeBook.STATE, x -> x.copies(0, 1));
    }

    /** What was asked once must not be answered from what was kept of another time. */
    private static void askingChangesNothing() {
        due.sentence("Nothing is promised beyond the answers and state changes described above");
        leaves(RefusedCallsTest::busyBook, "all kinds of asking", x -> {
            for (int g = 0; g < 3; g++) {
                x.luck(g, 2);
                x.mean(g, 0);
                x.rows(g, 0, 1);
                x.weight(g, 500);
                x.copies(g, 19);
                x.holds(g, 3, 20);
                x.pumps(g, 999);
                x.joined(g, 999);
                x.together(g, 1);
            }
            return x.ranked(0) + x.pays(3) + x.honest() + x.count(4) + x.about(0, 3) + x.mended(0) + x.fault(0) + x.rule(2);
        });
    }

    private static void rulesStayWithAFault() {
        due.sentence("NONE with a FAULT (the RULES stay).");
        ForeBook plain = null;
        ForeBook changed = null;
        for (int i = 0; i < asks.size(); i++) {
            if (i % ASKS_OF_ONE_OBJECT == 0) {
                plain = busyBook();
                plain.end(0);
                changed = busyBook();
                changed.feed(0, 0, 0, 0, 0);
                due.same("rules", changed.rules(), ForeBook.NONE);
            }
            if (!faultNames.contains(names.get(i))) {
                due.same(names.get(i) + " behind a fault", asks.get(i).of(changed), asks.get(i).of(plain));
            }
        }
    }
}
