/** Promises 1, 7 to 10, 25, 26 and the first of Terms I: bounds of days, questions, guesses and what is held. */
public final class BookBoundsTest {
    private static final Due due = new Due("BookBoundsTest");

    public static void main(String[] args) {
        newObjectIsEmpty();
        constants();
        questionsLastOneToSixtyDays();
        questionsAreTwenty();
        rangeComesAheadOfFull();
        toldFromItsFirstDayOn();
        toldWhatItWas();
        voidHasNoDay();
        notToldAnyMore();
        guessOnOpenDaysAlone();
        guessOfATenth();
        guessNotOnAnEarlierDay();
        guessOnWhatIsNotTold();
        guessesAreThreeHundred();
        refusalsOfAGuessInOrder();
        heldFromItsDayOn();
        heldOfOneDayTheLast();
        aboutEachQuestion();
        countsOfAFullBook();
        theLastOfAllCalls();
        due.finish();
    }

    private static void newObjectIsEmpty() {
        due.sentence("No QUESTIONS, no GUESSES, RULES as they are without a text.");
        ForeBook x = new ForeBook();
        for (int what = 0; what <= 4; what++) {
            due.same("count " + what, x.count(what), 0);
        }
        for (int g = 0; g < 20; g++) {
            due.same("mean above", x.mean(g, 0), 0);
            due.same("mean below", x.mean(g, 1), 0);
            due.same("weight", x.weight(g, 999), 1);
            due.same("luck", x.luck(g, 0), 0);
            due.same("luck", x.luck(g, 1), 0);
            due.same("luck", x.luck(g, 2), 1);
            due.same("pumps", x.pumps(g, 0), 0);
            due.same("mended", x.mended(g), ForeBook.NONE);
            due.same("about", x.about(g, 0), ForeBook.NONE);
            due.same("ranked", x.ranked(g), ForeBook.NONE);
            due.same("copies", x.copies(g, (g + 1) % 20), ForeBook.STATE);
        }
        due.same("honest", x.honest(), ForeBook.NONE);
        due.same("no copy days", x.rule(2), ForeBook.NONE);
        due.same("no copy times", x.rule(3), ForeBook.NONE);
        ForeBook other = new ForeBook();
        x.question(0, 0);
        x.feed(0, 0, 0, 0, 0);
        due.same("one knows nothing of the other", other.count(0) + other.count(3), 0);
    }

    private static void constants() {
        due.sentence("`NONE = -1`: There is none.");
        due.same("NONE", ForeBook.NONE, -1);
        due.sentence("`RANGE = -2`: A number that can't be.");
        due.same("RANGE", ForeBook.RANGE, -2);
        due.sentence("`FULL = -3`: No room.");
        due.same("FULL", ForeBook.FULL, -3);
        due.sentence("`STATE = -4`: Not as things are.");
        due.same("STATE", ForeBook.STATE, -4);
    }

    private static void questionsLastOneToSixtyDays() {
        due.sentence("open on days from .. to (1 to 60 days)");
        int[] firsts = {0, 1, 500, 939, 940, 941, 998, 999};
        for (int from : firsts) {
            for (int days = -1; days <= 62; days++) {
                int to = from + days - 1;
                boolean canBe = days >= 1 && days <= 60 && to <= 999;
                due.same("question(" + from + ", " + to + ")", new ForeBook().question(from, to),
                        canBe ? 0 : ForeBook.RANGE);
            }
        }
        due.same("as many days by wrapping", new ForeBook().question(Integer.MAX_VALUE, Integer.MIN_VALUE),
                ForeBook.RANGE);
        due.same("as many days by wrapping", new ForeBook().question(Integer.MIN_VALUE, Integer.MIN_VALUE + 5),
                ForeBook.RANGE);
    }

    private static void questionsAreTwenty() {
        due.sentence("QUESTIONS, at most 20, numbered from 0");
        ForeBook x = new ForeBook();
        for (int q = 0; q < 20; q++) {
            due.same("question " + q, x.question(10, 19), q);
        }
        due.same("the 21st", x.question(10, 19), ForeBook.FULL);
        due.same("and again", x.question(0, 0), ForeBook.FULL);
        due.same("questions", x.count(0), 20);
        due.same("the last", x.about(19, 0), 10);
        due.same("behind it", x.about(20, 0), ForeBook.NONE);
        for (int q = 0; q < 20; q++) {
            x.tell(q, 2, 0);
        }
        due.same("void ones go on taking room", x.question(10, 19), ForeBook.FULL);
    }

    private static void rangeComesAheadOfFull() {
        due.sentence("A QUESTION comes: its number; RANGE; FULL.");
        ForeBook x = Due.withQuestions(20);
        due.same("no day", x.question(10, 9), ForeBook.RANGE);
        due.same("61 days", x.question(10, 70), ForeBook.RANGE);
        due.same("60 days", x.question(10, 69), ForeBook.FULL);
    }

    private static void toldFromItsFirstDayOn() {
        due.sentence("A QUESTION is YES (1) or NO (0), KNOWN on a day (not below from)");
        for (int how = 0; how <= 1; how++) {
            for (int known : new int[] {10, 11, 19, 20, 21, 998, 999}) {
                ForeBook x = Due.withQuestions(1);
                due.same("known on " + known, x.tell(0, how, known), 3);
                due.same("how", x.about(0, 2), how);
                due.same("known", x.about(0, 3), known);
            }
            for (int known : new int[] {9, 0, -1, 1000, 1010, Integer.MIN_VALUE, Integer.MAX_VALUE}) {
                ForeBook x = Due.withQuestions(1);
                due.same("known on " + known, x.tell(0, how, known), ForeBook.RANGE);
                due.same("how", x.about(0, 2), 3);
                due.same("known", x.about(0, 3), ForeBook.NONE);
            }
        }
        ForeBook x = new ForeBook();
        x.question(0, 5);
        due.same("known on the first of all days", x.tell(0, 1, 0), 3);
        due.same("known", x.about(0, 3), 0);
        x.question(999, 999);
        due.same("known on the last of all days", x.tell(1, 0, 999), 3);
        due.same("a day ahead", x.tell(1, 0, 998), ForeBook.RANGE);
    }

    private static void toldWhatItWas() {
        due.sentence("what it was (0 .. 3); RANGE.");
        for (int was = 0; was <= 3; was++) {
            for (int now = 0; now <= 3; now++) {
                ForeBook x = Due.withQuestions(1);
                x.tell(0, was, was < 2 ? 12 : 0);
                due.same("told " + now + " when it was " + was, x.tell(0, now, now < 2 ? 14 : 0), was);
                due.same("how", x.about(0, 2), now);
                due.same("known", x.about(0, 3), now < 2 ? 14 : ForeBook.NONE);
            }
        }
    }

    private static void voidHasNoDay() {
        due.sentence("or VOID (2; known 0), or not told any more (3; known 0)");
        for (int how = 2; how <= 3; how++) {
            for (int known : new int[] {-1, 1, 10, 15, 999, ForeBook.NONE}) {
                ForeBook x = Due.withQuestions(1);
                x.tell(0, 1, 15);
                due.same("told " + how + " with " + known, x.tell(0, how, known), ForeBook.RANGE);
                due.same("how", x.about(0, 2), 1);
                due.same("known", x.about(0, 3), 15);
            }
        }
        ForeBook x = new ForeBook();
        x.question(0, 9);
        due.same("void, though 0 is one of its days", x.tell(0, 2, 0), 3);
        due.same("known", x.about(0, 3), ForeBook.NONE);
    }

    private static void notToldAnyMore() {
        due.sentence("STATE: it has a later GUESS of theirs, or isn't one that is not told yet; FULL.");
        ForeBook x = Due.withQuestions(1);
        x.guess(0, 0, 12, 9);
        for (int how = 0; how <= 2; how++) {
            x.tell(0, how, how < 2 ? 15 : 0);
            due.same("told " + how, x.guess(0, 0, 15, 5), ForeBook.STATE);
            due.same("another one", x.guess(1, 0, 10, 5), ForeBook.STATE);
            x.tell(0, 3, 0);
        }
        due.same("a mean", x.count(4), 0);
        due.same("what was told ahead stays", x.holds(0, 0, 12), 9);
        due.same("a guess", x.guess(0, 0, 15, 5), 1);
    }

    private static void guessOnOpenDaysAlone() {
        due.sentence("of a GUESSER on a QUESTION on a day on which it is open");
        for (int day = -1; day <= 30; day++) {
            ForeBook x = Due.withQuestions(1);
            boolean isOpen = day >= 10 && day <= 19;
            due.same("guess on day " + day, x.guess(0, 0, day, 5), isOpen ? 0 : ForeBook.RANGE);
            due.same("guesses", x.count(1), isOpen ? 1 : 0);
        }
        ForeBook x = new ForeBook();
        x.question(0, 0);
        x.question(999, 999);
        due.same("the first of all days", x.guess(0, 0, 0, 5), 0);
        due.same("the last of all days", x.guess(0, 1, 999, 5), 1);
        due.same("behind all days", x.guess(0, 1, 1000, 5), ForeBook.RANGE);
        due.same("ahead of all days", x.guess(0, 0, -1, 5), ForeBook.RANGE);
    }

    private static void guessOfATenth() {
        due.sentence("a TENTH 0 .. 10 (how sure of YES)");
        for (int tenth = -3; tenth <= 13; tenth++) {
            ForeBook x = Due.withQuestions(1);
            boolean canBe = tenth >= 0 && tenth <= 10;
            due.same("guess of " + tenth, x.guess(0, 0, 10, tenth), canBe ? 0 : ForeBook.RANGE);
            due.same("held", x.holds(0, 0, 10), canBe ? tenth : ForeBook.NONE);
        }
    }

    private static void guessNotOnAnEarlierDay() {
        due.sentence("not on an earlier day than their latest one on that QUESTION.");
        ForeBook x = Due.withQuestions(2);
        x.guess(0, 0, 15, 5);
        due.same("a day earlier", x.guess(0, 0, 14, 6), ForeBook.STATE);
        due.same("the first day", x.guess(0, 0, 10, 6), ForeBook.STATE);
        due.same("the same day", x.guess(0, 0, 15, 6), 1);
        due.same("another question", x.guess(0, 1, 10, 6), 2);
        due.same("another guesser", x.guess(1, 0, 10, 6), 3);
        due.same("the last day", x.guess(0, 0, 19, 7), 4);
        due.same("a day earlier", x.guess(0, 0, 18, 7), ForeBook.STATE);
        due.same("the last day again", x.guess(0, 0, 19, 8), 5);
        due.same("what was refused is not held", x.holds(0, 0, 18), 6);
        due.same("what was refused is not held", x.holds(0, 0, 14), ForeBook.NONE);
    }

    private static void guessOnWhatIsNotTold() {
        due.sentence("later told YES, NO or VOID, with the day on which that was KNOWN (YES, NO), or not told yet.");
        ForeBook x = Due.withQuestions(2);
        x.tell(0, 1, 19);
        due.same("on a day ahead of the one on which it was known", x.guess(0, 0, 10, 5), ForeBook.STATE);
        due.same("on another question", x.guess(0, 1, 10, 5), 0);
        x.tell(0, 3, 0);
        due.same("not told any more", x.guess(0, 0, 10, 5), 1);
    }

    private static void guessesAreThreeHundred() {
        due.sentence("GUESSES, at most 300, numbered from 0 as they come");
        ForeBook x = Due.withQuestions(2);
        for (int i = 0; i < 300; i++) {
            due.same("guess " + i, x.guess(i % 20, i % 2, 10 + i / 30, i % 11), i);
        }
        due.same("the 301st", x.guess(0, 0, 19, 5), ForeBook.FULL);
        due.same("of another guesser on another question", x.guess(19, 1, 19, 5), ForeBook.FULL);
        due.same("guesses", x.count(1), 300);
        due.same("on the first", x.about(0, 4), 150);
        due.same("on the second", x.about(1, 4), 150);
        x.tell(0, 2, 0);
        due.same("a guess on a void one", x.guess(0, 0, 19, 5), ForeBook.STATE);
        due.same("those on a void one go on taking room", x.guess(1, 1, 19, 5), ForeBook.FULL);
        due.same("the last one is held", x.holds(19, 1, 19), 299 % 11);
    }

    private static void refusalsOfAGuessInOrder() {
        due.sentence("RANGE: no such GUESSER, QUESTION, TENTH, day on which it is open; "
                + "STATE: it has a later GUESS of theirs, or isn't one that is not told yet; FULL.");
        ForeBook x = Due.withQuestions(2);
        x.tell(1, 2, 0);
        x.guess(0, 0, 15, 5);
        due.same("no tenth, told", x.guess(0, 1, 15, 11), ForeBook.RANGE);
        due.same("no day, told", x.guess(0, 1, 20, 5), ForeBook.RANGE);
        due.same("no tenth, a later guess", x.guess(0, 0, 14, -1), ForeBook.RANGE);
        due.same("no day, a later guess", x.guess(0, 0, 9, 5), ForeBook.RANGE);
        for (int i = 1; i < 300; i++) {
            x.guess(0, 0, 15, 5);
        }
        due.same("no tenth, no room", x.guess(0, 0, 15, 11), ForeBook.RANGE);
        due.same("no guesser, no room", x.guess(20, 0, 15, 5), ForeBook.RANGE);
        due.same("no question, no room", x.guess(0, 2, 15, 5), ForeBook.RANGE);
        due.same("no day, no room", x.guess(0, 0, 20, 5), ForeBook.RANGE);
        due.same("a later guess, no room", x.guess(0, 0, 14, 5), ForeBook.STATE);
        due.same("told, no room", x.guess(1, 1, 15, 5), ForeBook.STATE);
        due.same("no room", x.guess(0, 0, 15, 5), ForeBook.FULL);
    }

    private static void heldFromItsDayOn() {
        due.sentence("the TENTH of their latest GUESS on it told on that day or ahead of it");
        ForeBook x = Due.withQuestions(2);
        x.guess(0, 0, 12, 0);
        x.guess(0, 0, 15, 10);
        for (int day : new int[] {0, 9, 10, 11}) {
            due.same("ahead of the first, on " + day, x.holds(0, 0, day), ForeBook.NONE);
        }
        for (int day : new int[] {12, 13, 14}) {
            due.same("the first, on " + day, x.holds(0, 0, day), 0);
        }
        for (int day : new int[] {15, 16, 19, 20, 100, 999}) {
            due.same("the second, on " + day, x.holds(0, 0, day), 10);
        }
        due.same("of another question", x.holds(0, 1, 999), ForeBook.NONE);
        due.same("of another guesser", x.holds(1, 0, 999), ForeBook.NONE);
        due.same("behind all days", x.holds(0, 0, 1000), ForeBook.RANGE);
        due.same("ahead of all days", x.holds(0, 0, -1), ForeBook.RANGE);
    }

    private static void heldOfOneDayTheLast() {
        due.sentence("(of one day that told last).");
        ForeBook x = Due.withQuestions(1);
        for (int tenth : new int[] {7, 10, 0, 3}) {
            x.guess(0, 0, 12, tenth);
            due.same("held on its day", x.holds(0, 0, 12), tenth);
            due.same("held later", x.holds(0, 0, 13), tenth);
            due.same("held ahead", x.holds(0, 0, 11), ForeBook.NONE);
        }
        x.guess(0, 0, 13, 9);
        due.same("held on the first day", x.holds(0, 0, 12), 3);
    }

    private static void aboutEachQuestion() {
        due.sentence("Of QUESTION q, what 0: from, 1: to, 2: 0 NO, 1 YES, 2 VOID, 3 not told yet, "
                + "3: the day on which it was KNOWN (NONE), 4: GUESSES on it. NONE when there is none such.");
        ForeBook x = new ForeBook();
        for (int q = 0; q < 20; q++) {
            x.question(q, q + 40);
            for (int i = 0; i < q; i++) {
                x.guess(i, q, q, 5);
            }
            x.tell(q, q % 4, q % 4 < 2 ? q + 3 : 0);
        }
        for (int q = 0; q < 20; q++) {
            int[] want = {q, q + 40, q % 4, q % 4 < 2 ? q + 3 : ForeBook.NONE, q};
            for (int what = 0; what <= 4; what++) {
                due.same("about(" + q + ", " + what + ")", x.about(q, what), want[what]);
            }
        }
    }

    private static void countsOfAFullBook() {
        due.sentence("What 0: QUESTIONS, 1: GUESSES, 2: TIES, 3: bytes of THE TAPE, 4: GUESSERS with a MEAN.");
        ForeBook x = Due.withQuestions(20);
        for (int i = 0; i < 300; i++) {
            x.guess(i % 20, i / 20, 10, 5);
        }
        for (int i = 0; i < 30; i++) {
            x.tie(0, 1, 0);
        }
        for (int i = 0; i < 25; i++) {
            x.feed(0, 0, 0, 0, 0);
        }
        due.same("with a mean, nothing told yet", x.count(4), 0);
        x.tell(0, 1, 10);
        due.same("with a mean, told without a row", x.count(4), 0);
        x.tell(0, 1, 11);
        int[] want = {20, 300, 30, 500, 20};
        for (int what = 0; what <= 4; what++) {
            due.same("count " + what, x.count(what), want[what]);
        }
        due.same("count 5", x.count(5), ForeBook.NONE);
        due.same("count -1", x.count(-1), ForeBook.NONE);
    }

    private static void theLastOfAllCalls() {
        due.sentence("An object is used for at most 512 calls after it has been made");
        ForeBook x = new ForeBook();
        int calls = 0;
        for (int q = 0; q < 20; q++, calls++) {
            x.question(10, 69);
        }
        for (int i = 0; i < 300; i++, calls++) {
            x.guess(i % 20, i / 20, 10, i % 11);
        }
        for (int i = 0; i < 30; i++, calls++) {
            x.tie(0, 1 + i % 19, i % 3);
        }
        for (int q = 0; q < 20; q++, calls++) {
            x.tell(q, 1, 70);
        }
        for (; calls < 510; calls++) {
            x.luck(calls % 20, 2);
        }
        due.same("call 511", x.rows(0, 14, 0), 60);
        due.same("call 512", x.rows(0, 14, 1), 60 * (10 - 280 % 11) * (10 - 280 % 11));
    }
}
