/** For each argument of each call the last number that is taken and the first that is refused, on both sides. */
public final class ArgumentsTest {
    private static final Due due = new Due("ArgumentsTest");

    private interface Call {
        long ask(ForeBook x, int[] a);
    }

    /** One call with arguments that are all as they may be, and what it answers if one is not. */
    private static final class Checked {
        final String name;
        final Call call;
        final int questions;
        final long refusal;
        final int[] plain;

        Checked(String name, Call call, int questions, long refusal, int... plain) {
            this.name = name;
            this.call = call;
            this.questions = questions;
            this.refusal = refusal;
            this.plain = plain;
        }

        /** Takes low .. high in one place, and nothing just beside or far off. */
        void takes(int place, int low, int high) {
            taken(place, low, true);
            taken(place, high, true);
            refuses(place, low - 1, high + 1, Integer.MIN_VALUE, Integer.MAX_VALUE);
        }

        void refuses(int place, int... wrong) {
            for (int number : wrong) {
                taken(place, number, false);
            }
        }

        /** Each on a book of its own, as a call that is taken may change it. */
        private void taken(int place, int number, boolean isTaken) {
            int[] arguments = plain.clone();
            arguments[place] = number;
            long got = call.ask(book(questions), arguments);
            String told = name + java.util.Arrays.toString(arguments) + " with " + questions + " questions";
            if (isTaken) {
                due.holds(told + " is taken, not " + got, got != refusal);
            } else {
                due.same(told, got, refusal);
            }
        }
    }

    public static void main(String[] args) {
        texts();
        questions();
        tells();
        guesses();
        asksOfGuessers();
        asksOfQuestions();
        asksOfDays();
        asksOfWhat();
        ties();
        noQuestionsAtAll();
        due.finish();
    }

    /** Questions open on days 10 to 19; all guessers hold something of the first four of them. */
    private static ForeBook book(int questions) {
        ForeBook x = new ForeBook();
        Due.rules(x, "copy 3 2;weights past;");
        x.feed(0, 0, 0, 0, 0);
        for (int q = 0; q < questions; q++) {
            x.question(10, 19);
        }
        for (int q = 0; q < questions && q < 4; q++) {
            for (int g = 0; g < 20; g++) {
                x.guess(g, q, 11, (g + q) % 11);
            }
        }
        if (questions > 1) {
            x.tell(1, 1, 15);
            x.mend(0, 11, 3);
        }
        return x;
    }

    private static Checked checked(String name, Call call, int questions, long refusal, int... plain) {
        return new Checked(name, call, questions, refusal, plain);
    }

    private static void texts() {
        due.sentence("n; NONE when it has not so many, or n is below 0.");
        checked("end", (x, a) -> x.end(a[0]), 3, ForeBook.NONE, 0).takes(0, 0, 20);
        due.sentence("NONE for another what.");
        Checked fault = checked("fault", (x, a) -> faulty(x).fault(a[0]), 3, ForeBook.NONE, 0);
        fault.takes(0, 0, 1);
        due.sentence("10 + t, 30 + t: COST of t when YES, NO. -9 for another what.");
        Checked rule = checked("rule", (x, a) -> x.rule(a[0]), 3, -9, 0);
        rule.takes(0, 0, 4);
        rule.takes(0, 10, 20);
        rule.takes(0, 30, 40);
        rule.refuses(0, 6, 7, 8, 22, 25, 28, 42, 50, 60, 10 + Integer.MIN_VALUE, 30 + Integer.MIN_VALUE);
    }

    private static ForeBook faulty(ForeBook x) {
        x.end(0);
        Due.rules(x, "least 0;");
        return x;
    }

    private static void questions() {
        due.sentence("DAYS 0 .. 999.");
        Checked first = checked("question", (x, a) -> x.question(a[0], a[1]), 3, ForeBook.RANGE, 20, 40);
        first.takes(0, 0, 40);
        Checked last = checked("question", (x, a) -> x.question(a[0], a[1]), 3, ForeBook.RANGE, 970, 980);
        last.takes(1, 970, 999);
        due.sentence("open on days from .. to (1 to 60 days)");
        Checked middle = checked("question", (x, a) -> x.question(a[0], a[1]), 3, ForeBook.RANGE, 500, 500);
        middle.takes(0, 441, 500);
        middle.takes(1, 500, 559);
    }

    private static void tells() {
        Checked yes = checked("tell", (x, a) -> x.tell(a[0], a[1], a[2]), 3, ForeBook.RANGE, 0, 1, 15);
        Checked no = checked("tell", (x, a) -> x.tell(a[0], a[1], a[2]), 3, ForeBook.RANGE, 0, 0, 15);
        Checked isVoid = checked("tell", (x, a) -> x.tell(a[0], a[1], a[2]), 3, ForeBook.RANGE, 0, 2, 0);
        Checked untold = checked("tell", (x, a) -> x.tell(a[0], a[1], a[2]), 3, ForeBook.RANGE, 0, 3, 0);
        due.sentence("A QUESTION is YES (1) or NO (0), KNOWN on a day (not below from)");
        yes.takes(0, 0, 2);
        yes.takes(1, 0, 1);
        yes.takes(2, 10, 999);
        no.takes(2, 10, 999);
        yes.refuses(2, 0);
        no.refuses(2, 0);
        due.sentence("or VOID (2; known 0), or not told any more (3; known 0): what it was (0 .. 3); RANGE.");
        isVoid.takes(0, 0, 2);
        isVoid.takes(1, 2, 3);
        isVoid.takes(2, 0, 0);
        isVoid.refuses(2, 10, 15, 999);
        untold.takes(0, 0, 2);
        untold.takes(2, 0, 0);
        untold.refuses(2, 10, 15, 999);
    }

    private static void guesses() {
        due.sentence("RANGE: no such GUESSER, QUESTION, TENTH, day on which it is open;");
        Checked guess = checked("guess", (x, a) -> x.guess(a[0], a[1], a[2], a[3]), 5, ForeBook.RANGE, 3, 4, 15, 5);
        guess.takes(0, 0, 19);
        guess.takes(1, 0, 4);
        guess.takes(2, 10, 19);
        guess.refuses(2, 0, 999, 1000);
        guess.takes(3, 0, 10);
    }

    private static void asksOfGuessers() {
        due.sentence("GUESSERS 0 .. 19.");
        long range = ForeBook.RANGE;
        checked("holds", (x, a) -> x.holds(a[0], a[1], a[2]), 3, range, 0, 0, 11).takes(0, 0, 19);
        checked("rows", (x, a) -> x.rows(a[0], a[1], a[2]), 3, range, 0, 1, 0).takes(0, 0, 19);
        checked("mean", (x, a) -> x.mean(a[0], a[1]), 3, range, 0, 0).takes(0, 0, 19);
        checked("copies", (x, a) -> x.copies(a[0], a[1]), 3, range, 0, 7).takes(0, 0, 19);
        checked("copies", (x, a) -> x.copies(a[0], a[1]), 3, range, 7, 0).takes(1, 0, 19);
        checked("weight", (x, a) -> x.weight(a[0], a[1]), 3, range, 0, 20).takes(0, 0, 19);
        checked("luck", (x, a) -> x.luck(a[0], a[1]), 3, range, 0, 0).takes(0, 0, 19);
        checked("pumps", (x, a) -> x.pumps(a[0], a[1]), 3, range, 0, 11).takes(0, 0, 19);
        checked("mend", (x, a) -> x.mend(a[0], a[1], a[2]), 3, range, 0, 11, 3).takes(0, 0, 19);
        due.sentence("The i-th RANKED GUESSER; NONE.");
        checked("ranked", (x, a) -> x.ranked(a[0]), 3, ForeBook.NONE, 0).takes(0, 0, 19);
        due.sentence("COPIES of a GUESSER of another one (unlike), by all GUESSES; RANGE;");
        for (int g = 0; g < 20; g++) {
            checked("copies", (x, a) -> x.copies(a[0], a[1]), 3, range, g, g).refuses(0, g);
        }
    }

    /** Those numbered from 0, as many as there are: three of them, one, all twenty. */
    private static void asksOfQuestions() {
        due.sentence("QUESTIONS, at most 20, numbered from 0");
        long range = ForeBook.RANGE;
        for (int many : new int[] {1, 3, 20}) {
            int last = many - 1;
            checked("tell", (x, a) -> x.tell(a[0], a[1], a[2]), many, range, 0, 2, 0).takes(0, 0, last);
            checked("guess", (x, a) -> x.guess(a[0], a[1], a[2], a[3]), many, range, 0, 0, 12, 5).takes(1, 0, last);
            checked("holds", (x, a) -> x.holds(a[0], a[1], a[2]), many, range, 0, 0, 11).takes(1, 0, last);
            checked("rows", (x, a) -> x.rows(a[0], a[1], a[2]), many, range, 0, 0, 0).takes(1, 0, last);
            checked("joined", (x, a) -> x.joined(a[0], a[1]), many, range, 0, 11).takes(0, 0, last);
            checked("together", (x, a) -> x.together(a[0], a[1]), many, range, 0, 0).takes(0, 0, last);
            checked("about", (x, a) -> x.about(a[0], a[1]), many, ForeBook.NONE, 0, 0).takes(0, 0, last);
        }
    }

    private static void asksOfDays() {
        due.sentence("DAYS 0 .. 999.");
        long range = ForeBook.RANGE;
        checked("holds", (x, a) -> x.holds(a[0], a[1], a[2]), 3, range, 0, 0, 11).takes(2, 0, 999);
        checked("weight", (x, a) -> x.weight(a[0], a[1]), 3, range, 0, 11).takes(1, 0, 999);
        checked("joined", (x, a) -> x.joined(a[0], a[1]), 3, range, 0, 11).takes(1, 0, 999);
        checked("pumps", (x, a) -> x.pumps(a[0], a[1]), 3, range, 0, 11).takes(1, 0, 999);
        checked("mend", (x, a) -> x.mend(a[0], a[1], a[2]), 3, range, 0, 11, 3).takes(1, 0, 999);
    }

    private static void asksOfWhat() {
        long range = ForeBook.RANGE;
        due.sentence("ROWS of a GUESSER on a QUESTION, what 0: how many, 1: their sum.");
        checked("rows", (x, a) -> x.rows(a[0], a[1], a[2]), 3, range, 0, 1, 0).takes(2, 0, 1);
        due.sentence("MEAN of a GUESSER, what 0: above, 1: below; 0 for both without; RANGE.");
        checked("mean", (x, a) -> x.mean(a[0], a[1]), 3, range, 0, 0).takes(1, 0, 1);
        due.sentence("What PAYS who believes k TENTHS; RANGE.");
        checked("pays", (x, a) -> x.pays(a[0]), 3, range, 0).takes(0, 0, 10);
        due.sentence("what 0: how many, 1: their sum (0 if it isn't YES or NO). RANGE.");
        checked("together", (x, a) -> x.together(a[0], a[1]), 3, range, 1, 0).takes(1, 0, 1);
        due.sentence("LUCK of a GUESSER, what 0: n, 1: b, 2: in how many of 2^n rows. RANGE.");
        checked("luck", (x, a) -> x.luck(a[0], a[1]), 3, range, 0, 0).takes(1, 0, 2);
        due.sentence("4: GUESSES on it. NONE when there is none such.");
        checked("about", (x, a) -> x.about(a[0], a[1]), 3, ForeBook.NONE, 1, 0).takes(1, 0, 4);
        due.sentence("4: GUESSERS with a MEAN. NONE for others.");
        checked("count", (x, a) -> x.count(a[0]), 3, ForeBook.NONE, 0).takes(0, 0, 4);
    }

    private static void ties() {
        long range = ForeBook.RANGE;
        due.sentence("A TIE of two QUESTIONS (unlike), kind 0 .. 2: its number; RANGE; FULL.");
        Checked tie = checked("tie", (x, a) -> x.tie(a[0], a[1], a[2]), 5, range, 2, 3, 0);
        tie.takes(0, 0, 4);
        tie.takes(1, 0, 4);
        tie.takes(2, 0, 2);
        tie.refuses(0, 3);
        tie.refuses(1, 2);
        due.sentence("RANGE: no such GUESSER, day, set (1 or more);");
        checked("mend", (x, a) -> x.mend(a[0], a[1], a[2]), 1, range, 0, 11, 1).takes(2, 1, 1);
        checked("mend", (x, a) -> x.mend(a[0], a[1], a[2]), 3, range, 0, 11, 1).takes(2, 1, 7);
        checked("mend", (x, a) -> x.mend(a[0], a[1], a[2]), 20, range, 0, 11, 1).takes(2, 1, 0xFFFFF);
        checked("mend", (x, a) -> x.mend(a[0], a[1], a[2]), 20, range, 0, 11, 1)
                .refuses(2, 1 << 20 | 1, 1 << 30, 1 << 31 | 1, -2);
        due.sentence("The TENTH of QUESTION q by the latest mend() that told a sum; NONE.");
        checked("mended", (x, a) -> x.mended(a[0]), 3, ForeBook.NONE, 0).takes(0, 0, 1);
        checked("mended", (x, a) -> x.mended(a[0]), 20, ForeBook.NONE, 0).refuses(0, 19, 20, 32, 33);
    }

    private static void noQuestionsAtAll() {
        due.sentence("No QUESTIONS, no GUESSES");
        long range = ForeBook.RANGE;
        checked("tell", (x, a) -> x.tell(a[0], a[1], a[2]), 0, range, 0, 2, 0).refuses(0, -1, 0, 1);
        checked("guess", (x, a) -> x.guess(a[0], a[1], a[2], a[3]), 0, range, 0, 0, 0, 5).refuses(1, -1, 0, 1);
        checked("holds", (x, a) -> x.holds(a[0], a[1], a[2]), 0, range, 0, 0, 0).refuses(1, -1, 0, 1);
        checked("rows", (x, a) -> x.rows(a[0], a[1], a[2]), 0, range, 0, 0, 0).refuses(1, -1, 0, 1);
        checked("joined", (x, a) -> x.joined(a[0], a[1]), 0, range, 0, 0).refuses(0, -1, 0, 1);
        checked("together", (x, a) -> x.together(a[0], a[1]), 0, range, 0, 0).refuses(0, -1, 0, 1);
        checked("tie", (x, a) -> x.tie(a[0], a[1], a[2]), 0, range, 0, 1, 0).refuses(0, -1, 0, 1);
        checked("mend", (x, a) -> x.mend(a[0], a[1], a[2]), 0, range, 0, 0, 1).refuses(2, 0, 1, 2);
        checked("about", (x, a) -> x.about(a[0], a[1]), 0, ForeBook.NONE, 0, 0).refuses(0, -1, 0, 1);
        checked("mended", (x, a) -> x.mended(a[0]), 0, ForeBook.NONE, 0).refuses(0, -1, 0, 1);
        checked("ranked", (x, a) -> x.ranked(a[0]), 0, ForeBook.NONE, 0).refuses(0, -1, 0, 1);
    }
}
