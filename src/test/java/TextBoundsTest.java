/** Promises 2 to 6 and the text of Terms I: each sentence that names a bound of the tape, its tokens and faults. */
public final class TextBoundsTest {
    private static final Due due = new Due("TextBoundsTest");
    private static final String ALL_LINES = "yes 100 0 64 49 36 25 16 9 4 1 1000;no 0 1 4 9 16 25 36 49 64 81 1000;"
            + "missing half;weights past;copy 30 99;least 99;";

    public static void main(String[] args) {
        tapeHoldsFiveHundred();
        feedBringsTwentyInOrder();
        endLeavesTheFirstAlone();
        tapeIsEmptyBehindRules();
        linesAreCounted();
        everyByteAsABlank();
        everyByteInAWord();
        everyByteInANumber();
        wordsGoOnAsFarAsTheyCan();
        numbersHaveFourDigits();
        everyNumberHasBounds();
        whatIsNotToldIsAsWithoutAText();
        faultAtTheEnd();
        firstFaultIsTold();
        leastKindOfOneToken();
        everyLineTwice();
        faultIsOfTheLatest();
        rulesStayWithEveryFault();
        costsByTenth();
        everyPrefix();
        tokensInAnyOrder();
        due.finish();
    }

    private static String blanks(int many) {
        return " ".repeat(many);
    }

    /** What a text is answered, held against the grammar told as a pattern. */
    private static void asGrammarSays(String text) {
        NaiveText want = new NaiveText(text);
        told(text, want.lines, want.kind, want.place);
    }

    private static void told(String text, int lines, int kind, int place) {
        ForeBook x = new ForeBook();
        due.same("rules of '" + text + "'", Due.rules(x, text), lines);
        due.same("fault(0) of '" + text + "'", x.fault(0), kind);
        due.same("fault(1) of '" + text + "'", x.fault(1), place);
    }

    private static void taken(String text, int lines) {
        told(text, lines, 0, ForeBook.NONE);
    }

    private static void refused(String text, int kind, int place) {
        told(text, ForeBook.NONE, kind, place);
    }

    private static void tapeHoldsFiveHundred() {
        due.sentence("how many it has; FULL when there would be more than 500.");
        for (int has = 475; has <= 500; has++) {
            ForeBook x = new ForeBook();
            Due.feed(x, "least 7;" + blanks(has - 8));
            due.same("bytes", x.count(3), has);
            boolean fits = has <= 480;
            due.same("a feed behind " + has, x.feed(-1, -1, -1, -1, -1), fits ? has + 20 : ForeBook.FULL);
            due.same("bytes behind it", x.count(3), fits ? has + 20 : has);
            due.same("rules of them", x.rules(), fits ? ForeBook.NONE : 1);
            due.same("least", x.rule(4), fits ? 1 : 7);
            due.same("place of the first strange byte", x.fault(1), fits ? has : ForeBook.NONE);
        }
        due.sentence("RULES' text on THE TAPE (at most 500 bytes)");
        taken(blanks(492) + "least 5;", 1);
        refused(blanks(499) + "l", 1, 499);
        refused(blanks(495) + "least", 1, 500);
        refused("l".repeat(500), 1, 0);
        refused("least 5;" + ";".repeat(492), 1, 8);
    }

    private static void feedBringsTwentyInOrder() {
        due.sentence("Twenty bytes come behind THE TAPE, the highest of each int first");
        ForeBook x = new ForeBook();
        due.same("feed", Due.feedTwenty(x, "copy 12 34;least 56;", 0), 20);
        due.same("feed", Due.feedTwenty(x, "missing half;       ", 0), 40);
        due.same("feed", Due.feedTwenty(x, "weights past;      \n", 0), 60);
        due.same("four lines", x.rules(), 4);
        int[] want = {1, 1, 12, 34, 56};
        for (int what = 0; what < 5; what++) {
            due.same("rule " + what, x.rule(what), want[what]);
        }
        for (int place = 0; place < 20; place++) {
            ForeBook y = new ForeBook();
            Due.feedTwenty(y, blanks(place) + ";" + blanks(19 - place), 0);
            due.same("a byte in place " + place, y.rules(), ForeBook.NONE);
            due.same("its place", y.fault(1), place);
        }
    }

    private static void endLeavesTheFirstAlone() {
        due.sentence("THE TAPE has its first n bytes alone: n; NONE when it has not so many, or n is below 0.");
        ForeBook x = new ForeBook();
        due.same("none of none", x.end(0), 0);
        due.same("one of none", x.end(1), ForeBook.NONE);
        Due.feedTwenty(x, "least 54321; strange", 0);
        due.same("one too many", x.end(21), ForeBook.NONE);
        due.same("below 0", x.end(-1), ForeBook.NONE);
        due.same("wrapping", x.end(Integer.MIN_VALUE), ForeBook.NONE);
        due.same("all stay", x.count(3), 20);
        due.same("just all", x.end(20), 20);
        due.same("eight", x.end(8), 8);
        due.same("nine are gone", x.end(9), ForeBook.NONE);
        due.same("twelve behind", Due.feedTwenty(x, ";                   ", 0), 28);
        due.same("what was cut off is gone", x.rules(), 1);
        due.same("least 54", x.rule(4), 54);
        Due.feed(x, "least 5;");
        due.same("cut to nothing", x.end(0), 0);
        due.same("no lines", x.rules(), 0);
        due.same("least", x.rule(4), 1);
    }

    private static void tapeIsEmptyBehindRules() {
        due.sentence("THE TAPE (read, and empty then) is the RULES: how many lines;");
        ForeBook x = new ForeBook();
        Due.rules(x, "least 5;");
        due.same("bytes behind a good text", x.count(3), 0);
        due.same("end(1)", x.end(1), ForeBook.NONE);
        due.same("no text: no lines", x.rules(), 0);
        due.same("and rules as without one", x.rule(4), 1);
        Due.rules(x, "least 5");
        due.same("bytes behind a fault", x.count(3), 0);
        due.same("feed", Due.feedTwenty(x, "least 6;            ", 0), 20);
        due.same("nothing of the other text", x.rules(), 1);
        due.same("least", x.rule(4), 6);
    }

    private static void linesAreCounted() {
        due.sentence("text = {line \";\"}.");
        taken("", 0);
        taken(" \n", 0);
        String[] lines = ALL_LINES.split(";");
        StringBuilder text = new StringBuilder();
        for (int many = 1; many <= 6; many++) {
            text.append(lines[many - 1]).append(';');
            taken(text.toString(), many);
            taken(lines[many - 1] + ";", 1);
            refused(lines[many - 1], 1, lines[many - 1].length());
            refused(lines[many - 1] + ";;", 1, lines[many - 1].length() + 1);
        }
    }

    private static void everyByteAsABlank() {
        due.sentence("TOKENS with any blanks (32, 10) between");
        for (int sign = 0; sign < 256; sign++) {
            asGrammarSays("least" + (char) sign + "5;");
            asGrammarSays("copy 1" + (char) sign + "2;");
        }
        taken("least\n5;", 1);
        taken("least 5;", 1);
        int[] strange = {0, 9, 11, 13, 31, 33, 32 + 128, 10 + 128};
        for (int sign : strange) {
            refused("least" + (char) sign + "5;", 1, 5);
        }
        taken(blanks(200) + "least" + "\n".repeat(100) + "5" + " \n".repeat(50) + ";" + blanks(93), 1);
        taken("least5;copy1 2;missing\nhalf;", 3);
    }

    private static void everyByteInAWord() {
        due.sentence("WORDS (small letters, as many as there are)");
        for (int sign = 0; sign < 256; sign++) {
            asGrammarSays((char) sign + "east 5;");
            asGrammarSays("leas" + (char) sign + " 5;");
            asGrammarSays("least" + (char) sign + " 5;");
            asGrammarSays("missing " + (char) sign + "alf;");
        }
    }

    private static void everyByteInANumber() {
        due.sentence("N (digits, as many as there are, 4 at most)");
        for (int sign = 0; sign < 256; sign++) {
            asGrammarSays("least " + (char) sign + ";");
            asGrammarSays("least 1" + (char) sign + ";");
            asGrammarSays("least 5" + (char) sign);
        }
        for (int digit = 0; digit <= 9; digit++) {
            ForeBook x = new ForeBook();
            due.same("digit " + digit, Due.rules(x, "least 1" + digit + ";"), 1);
            due.same("its number", x.rule(4), 10 + digit);
        }
    }

    private static void wordsGoOnAsFarAsTheyCan() {
        due.sentence("WORDS (small letters, as many as there are)");
        refused("leastleast 5;", 1, 0);
        refused("missinghalf;", 1, 0);
        refused("missing skiphalf;", 1, 8);
        refused("missing ski;", 1, 8);
        refused("weights pas", 1, 8);
        refused("weights " + "p".repeat(400) + ";", 1, 8);
        refused("a", 1, 0);
        refused("ye", 1, 0);
        refused("yess 1", 1, 0);
        refused("n", 1, 0);
    }

    private static void numbersHaveFourDigits() {
        due.sentence("(or byte that is none, a run that is too long) with which no text goes on.");
        taken("least 0099;", 1);
        refused("least 00099;", 1, 6);
        refused("least 9999;", 2, 6);
        refused("least 10000;", 1, 6);
        refused("least " + "0".repeat(400) + "5;", 1, 6);
        refused("least 4294967297;", 1, 6);
        taken("copy 0001 0001;", 1);
        refused("copy 0001 00001;", 1, 10);
        taken("yes 0000 0000 0000 0000 0000 0000 0000 0000 0000 0000 1000;", 1);
        refused("yes 00000", 1, 4);
        refused("12345", 1, 0);
    }

    private static String lineWith(String word, int numbers, int place, int number, int others) {
        StringBuilder line = new StringBuilder(word);
        for (int i = 0; i < numbers; i++) {
            line.append(' ').append(i == place ? number : others);
        }
        return line.append(';').toString();
    }

    /** The last number that is taken and the first that is not, in each place of a line. */
    private static void bounds(String word, int numbers, int place, int low, int high, int rule) {
        for (int number : new int[] {low, low + 1, high - 1, high}) {
            ForeBook x = new ForeBook();
            String line = lineWith(word, numbers, place, number, 7);
            due.same("rules of '" + line + "'", Due.rules(x, line), 1);
            due.same("rule " + rule + " of '" + line + "'", x.rule(rule), number);
        }
        int at = word.length() + 1 + 2 * place;
        for (int number : new int[] {low - 1, high + 1, 9999}) {
            if (number >= 0) {
                refused(lineWith(word, numbers, place, number, 7), 2, at);
            }
        }
        refused(lineWith(word, numbers, place, low - 1, 7), low == 0 ? 1 : 2, at);
    }

    private static void everyNumberHasBounds() {
        due.sentence("Bounds: costs 0 .. 1000; of copy the first 1 .. 30 (days), the second 1 .. 99; least 1 .. 99.");
        for (int t = 0; t <= 10; t++) {
            bounds("yes", 11, t, 0, 1000, 10 + t);
            bounds("no", 11, t, 0, 1000, 30 + t);
        }
        bounds("copy", 2, 0, 1, 30, 2);
        bounds("copy", 2, 1, 1, 99, 3);
        bounds("least", 1, 0, 1, 99, 4);
    }

    private static void plainRules(ForeBook x, int but) {
        int[] plain = {0, 0, ForeBook.NONE, ForeBook.NONE, 1};
        for (int what = 0; what < 5; what++) {
            boolean isTold = what == but || but == 2 && what == 3;
            due.holds("rule " + what + " beside " + but, isTold || x.rule(what) == plain[what]);
        }
        for (int t = 0; t <= 10; t++) {
            due.holds("yes " + t + " beside " + but, but == 10 || x.rule(10 + t) == (10 - t) * (10 - t));
            due.holds("no " + t + " beside " + but, but == 30 || x.rule(30 + t) == t * t);
        }
    }

    private static void whatIsNotToldIsAsWithoutAText() {
        due.sentence("What a text doesn't tell is so: yes 100 81 64 49 36 25 16 9 4 1 0, "
                + "no 0 1 4 9 16 25 36 49 64 81 100, missing skip, weights alike, no copy, least 1.");
        plainRules(new ForeBook(), -1);
        String[] lines = ALL_LINES.split(";");
        int[] told = {10, 30, 0, 1, 2, 4};
        for (int i = 0; i < 6; i++) {
            ForeBook x = new ForeBook();
            due.same("all lines", Due.rules(x, ALL_LINES), 6);
            due.same("one line", Due.rules(x, lines[i] + ";"), 1);
            plainRules(x, told[i]);
            due.same("no line", x.rules(), 0);
            plainRules(x, -1);
        }
    }

    private static void faultAtTheEnd() {
        due.sentence("PLACE (a TOKEN's first byte; the text's length at its end)");
        refused("least", 1, 5);
        refused("least ", 1, 6);
        refused("least 5", 1, 7);
        refused("least 5\n\n ", 1, 10);
        refused("  least 5 ;  copy", 1, 17);
        refused("  least 5 ;  copy  x", 1, 19);
        refused("   12345   ", 1, 3);
        taken("least 5;\n\n ", 1);
    }

    private static void firstFaultIsTold() {
        due.sentence("the first come to as TOKENS are read one by one");
        refused("least 0 least", 2, 6);
        refused("least 100;least 5;", 2, 6);
        refused("least 5;least 0;", 3, 8);
        refused("least 5 least 0;", 1, 8);
        refused("copy 31 x;", 2, 5);
        refused("copy 30 x 31;", 1, 8);
        refused("missing skip;missing x;", 3, 13);
        refused("least 100", 2, 6);
        refused("yes 1 2 3 1001", 2, 10);
    }

    private static void leastKindOfOneToken() {
        due.sentence("of one TOKEN the least KIND");
        refused("least 5 9999;", 1, 8);
        refused("9999", 1, 0);
        refused("least 5;0;", 1, 8);
        refused("missing 9999;", 1, 8);
        refused("least 5;copy least", 1, 13);
        refused("least 5 least", 1, 8);
        refused("copy 3 4 100;", 1, 9);
        refused("least 99999;", 1, 6);
    }

    private static void everyLineTwice() {
        due.sentence("3 TWICE: a line's first WORD that was told already.");
        String[] lines = ALL_LINES.split(";");
        for (String line : lines) {
            String word = line.substring(0, line.indexOf(' '));
            refused(line + ";" + line + ";", 3, line.length() + 1);
            refused(line + ";\n" + word, 3, line.length() + 2);
            refused(ALL_LINES + word, 3, ALL_LINES.length());
        }
    }

    private static void faultIsOfTheLatest() {
        due.sentence("Of the latest rules(), what 0: its FAULT's KIND, 0 without (and ahead of any), 1: its PLACE (NONE).");
        ForeBook x = new ForeBook();
        faults(x, 0, ForeBook.NONE);
        due.same("a fault", Due.rules(x, "least 0;"), ForeBook.NONE);
        faults(x, 2, 6);
        due.same("another one", Due.rules(x, ";"), ForeBook.NONE);
        faults(x, 1, 0);
        Due.feed(x, "least 5;least");
        faults(x, 1, 0);
        due.same("a third one", x.rules(), ForeBook.NONE);
        faults(x, 3, 8);
        due.same("an empty text", x.rules(), 0);
        faults(x, 0, ForeBook.NONE);
    }

    private static void faults(ForeBook x, int kind, int place) {
        due.same("fault(0)", x.fault(0), kind);
        due.same("fault(1)", x.fault(1), place);
        due.same("fault(2)", x.fault(2), ForeBook.NONE);
        due.same("fault(-1)", x.fault(-1), ForeBook.NONE);
    }

    private static void rulesStayWithEveryFault() {
        due.sentence("NONE with a FAULT (the RULES stay).");
        String other = "yes 5 5 5 5 5 5 5 5 5 5 5;no 6 6 6 6 6 6 6 6 6 6 6;missing half;weights past;copy 7 8;least 9;";
        String[] ends = {"x", "least 9;", ";", "", "5"};
        for (String end : ends) {
            ForeBook x = new ForeBook();
            Due.rules(x, other);
            String text = end.isEmpty() ? ALL_LINES.substring(0, ALL_LINES.length() - 1) : ALL_LINES + end;
            due.same("rules of '" + text + "'", Due.rules(x, text), ForeBook.NONE);
            int[] want = {1, 1, 7, 8, 9};
            for (int what = 0; what < 5; what++) {
                due.same("rule " + what, x.rule(what), want[what]);
            }
            for (int t = 0; t <= 10; t++) {
                due.same("yes " + t, x.rule(10 + t), 5);
                due.same("no " + t, x.rule(30 + t), 6);
            }
        }
    }

    private static void costsByTenth() {
        due.sentence("COST of a TENTH when it is YES: the N of yes at it (the first one at 0); NO: of no.");
        ForeBook x = new ForeBook();
        Due.rules(x, "yes 20 21 22 23 24 25 26 27 28 29 30;no 40 41 42 43 44 45 46 47 48 49 50;");
        for (int t = 0; t <= 10; t++) {
            due.same("rule " + (10 + t), x.rule(10 + t), 20 + t);
            due.same("rule " + (30 + t), x.rule(30 + t), 40 + t);
        }
    }

    private static void everyPrefix() {
        due.sentence("1 SYNTAX: a TOKEN");
        for (int n = 0; n <= ALL_LINES.length(); n++) {
            asGrammarSays(ALL_LINES.substring(0, n));
            asGrammarSays(ALL_LINES.substring(0, n) + ";");
            asGrammarSays(ALL_LINES.substring(n));
        }
    }

    /** Good lines with one token changed, put in or left out, and heaps of tokens. */
    private static void tokensInAnyOrder() {
        due.sentence("of one TOKEN the least KIND");
        String[] tokens = {"yes", "no", "missing", "weights", "copy", "least", "skip", "half", "alike", "past", ";", "0",
            "1", "30", "31", "99", "100", "1000", "1001", "12345", "x", "-"};
        String[] good = ALL_LINES.replace(";", " ; ").trim().split(" +");
        for (int at = 0; at < good.length; at++) {
            for (String token : tokens) {
                String[] changed = good.clone();
                changed[at] = token;
                asGrammarSays(String.join(" ", changed));
                changed[at] = good[at] + " " + token;
                asGrammarSays(String.join(" ", changed));
            }
        }
        for (String one : tokens) {
            for (String two : tokens) {
                for (String three : tokens) {
                    asGrammarSays(one + " " + two + " " + three);
                    asGrammarSays("copy 1 2;" + one + "\n" + two + ";" + three);
                }
            }
        }
    }
}
