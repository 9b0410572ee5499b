/** Promises 1 to 6: a new object, feed, end, rules, fault, rule. */
public final class RulesTest {
    private static final Due due = new Due("RulesTest");

    public static void main(String[] args) {
        newObject();
        tapeTakesAndCuts();
        tapeIsFull();
        bytesComeHighestFirst();
        everyLineIsTaken();
        whatATextDoesNotTellIsAsWithoutOne();
        blanksAndTokens();
        syntaxFaults();
        rangeFaults();
        twiceFaults();
        rulesStayWithAFault();
        wrongWhats();
        due.finish();
    }

    private static void newObject() {
        ForeBook x = new ForeBook();
        for (int what = 0; what < 5; what++) {
            due.same("new count " + what, x.count(what), 0);
        }
        plainRules(x, "new");
        due.same("new fault 0", x.fault(0), 0);
        due.same("new fault 1", x.fault(1), ForeBook.NONE);
        due.same("new mended", x.mended(0), ForeBook.NONE);
        due.same("new ranked", x.ranked(0), ForeBook.NONE);
    }

    private static void plainRules(ForeBook x, String when) {
        int[] yes = {100, 81, 64, 49, 36, 25, 16, 9, 4, 1, 0};
        for (int t = 0; t <= 10; t++) {
            due.same(when + " yes " + t, x.rule(10 + t), yes[t]);
            due.same(when + " no " + t, x.rule(30 + t), yes[10 - t]);
        }
        due.same(when + " missing", x.rule(0), 0);
        due.same(when + " weights", x.rule(1), 0);
        due.same(when + " copy days", x.rule(2), ForeBook.NONE);
        due.same(when + " copy times", x.rule(3), ForeBook.NONE);
        due.same(when + " least", x.rule(4), 1);
    }

    private static void tapeTakesAndCuts() {
        ForeBook x = new ForeBook();
        due.same("end(0) of none", x.end(0), 0);
        due.same("end(1) of none", x.end(1), ForeBook.NONE);
        due.same("feed", x.feed(1, 2, 3, 4, 5), 20);
        due.same("feed", x.feed(1, 2, 3, 4, 5), 40);
        due.same("end(41)", x.end(41), ForeBook.NONE);
        due.same("end(-1)", x.end(-1), ForeBook.NONE);
        due.same("tape stays", x.count(3), 40);
        due.same("end(40)", x.end(40), 40);
        due.same("end(7)", x.end(7), 7);
        due.same("end(8)", x.end(8), ForeBook.NONE);
        due.same("feed behind 7", x.feed(0, 0, 0, 0, 0), 27);
        due.same("end(0)", x.end(0), 0);
        due.same("empty", x.count(3), 0);
    }

    private static void tapeIsFull() {
        ForeBook x = new ForeBook();
        for (int i = 1; i <= 25; i++) {
            due.same("feed " + i, x.feed(0x20202020, 0x20202020, 0x20202020, 0x20202020, 0x20202020), 20 * i);
        }
        due.same("feed of a full tape", x.feed(0, 0, 0, 0, 0), ForeBook.FULL);
        due.same("full tape stays", x.count(3), 500);
        x.end(481);
        due.same("feed of 481", x.feed(0, 0, 0, 0, 0), ForeBook.FULL);
        due.same("481 stay", x.count(3), 481);
        x.end(480);
        due.same("feed of 480", x.feed(0x20202020, 0x0A0A0A0A, 0x20202020, 0x20202020, 0x20202020), 500);
        due.same("500 blanks are no lines", x.rules(), 0);
        due.same("the tape is empty then", x.count(3), 0);
    }

    private static void bytesComeHighestFirst() {
        ForeBook x = new ForeBook();
        x.feed(('l' << 24) | ('e' << 16) | ('a' << 8) | 's', ('t' << 24) | ('4' << 16) | ('2' << 8) | ';', 0, 0, 0);
        x.end(8);
        due.same("least42;", x.rules(), 1);
        due.same("least", x.rule(4), 42);
        x.feed(0x80000000, 0, 0, 0, 0);
        due.same("a byte above 127", x.rules(), ForeBook.NONE);
        due.same("its place", x.fault(1), 0);
    }

    private static void everyLineIsTaken() {
        ForeBook x = new ForeBook();
        due.same("all lines", Due.rules(x, "no 1 2 3 4 5 6 7 8 9 10 1000;yes 11 12 13 14 15 16 17 18 19 20 0;"
                + "missing half;weights past;copy 30 99;least 99;"), 6);
        for (int t = 0; t <= 10; t++) {
            due.same("yes " + t, x.rule(10 + t), t == 10 ? 0 : 11 + t);
            due.same("no " + t, x.rule(30 + t), t == 10 ? 1000 : 1 + t);
        }
        due.same("missing", x.rule(0), 1);
        due.same("weights", x.rule(1), 1);
        due.same("copy days", x.rule(2), 30);
        due.same("copy times", x.rule(3), 99);
        due.same("least", x.rule(4), 99);
        due.same("fault", x.fault(0), 0);
        due.same("place", x.fault(1), ForeBook.NONE);
        due.same("tape", x.count(3), 0);
        due.same("other words", Due.rules(x, "missing skip;weights alike;copy 1 1;least 1;"), 4);
        due.same("missing", x.rule(0), 0);
        due.same("weights", x.rule(1), 0);
        due.same("copy days", x.rule(2), 1);
        due.same("copy times", x.rule(3), 1);
        due.same("least", x.rule(4), 1);
    }

    private static void whatATextDoesNotTellIsAsWithoutOne() {
        ForeBook x = new ForeBook();
        Due.rules(x, "no 1 2 3 4 5 6 7 8 9 10 11;yes 1 2 3 4 5 6 7 8 9 10 11;missing half;weights past;copy 3 9;least 9;");
        due.same("least alone", Due.rules(x, "least 2;"), 1);
        due.same("least", x.rule(4), 2);
        due.same("missing", x.rule(0), 0);
        due.same("weights", x.rule(1), 0);
        due.same("copy", x.rule(2), ForeBook.NONE);
        due.same("no text at all", x.rules(), 0);
        plainRules(x, "behind an empty text");
    }

    private static void blanksAndTokens() {
        ForeBook x = new ForeBook();
        due.same("no blanks", Due.rules(x, "least7;copy3 4;missing half;"), 3);
        due.same("least", x.rule(4), 7);
        due.same("many blanks", Due.rules(x, " \n least \n\n 0008 \n ; \n"), 1);
        due.same("least", x.rule(4), 8);
        due.same("a tab is no blank", Due.rules(x, "least\t8;"), ForeBook.NONE);
        fault(x, "tab", 1, 5);
    }

    private static void refused(String text, int kind, int place) {
        ForeBook x = new ForeBook();
        due.same("rules of '" + text + "'", Due.rules(x, text), ForeBook.NONE);
        fault(x, text, kind, place);
        due.same("tape behind a fault", x.count(3), 0);
        plainRules(x, text);
    }

    private static void fault(ForeBook x, String text, int kind, int place) {
        due.same("fault kind of '" + text + "'", x.fault(0), kind);
        due.same("fault place of '" + text + "'", x.fault(1), place);
    }

    private static void syntaxFaults() {
        refused(";", 1, 0);
        refused("  ;", 1, 2);
        refused("5;", 1, 0);
        refused("least", 1, 5);
        refused("least  ", 1, 7);
        refused("least 5", 1, 7);
        refused("least 5 \n", 1, 9);
        refused("least 5 6;", 1, 8);
        refused("least ;", 1, 6);
        refused("least half;", 1, 6);
        refused("least 00005;", 1, 6);
        refused("least 5.", 1, 7);
        refused("least -5;", 1, 6);
        refused("Least 5;", 1, 0);
        refused("leas 5;", 1, 0);
        refused("leasts 5;", 1, 0);
        refused("leastz 5;", 1, 0);
        refused("aleast 5;", 1, 0);
        refused("least{5;", 1, 5);
        refused("least`5;", 1, 5);
        refused("least 5:", 1, 7);
        refused("least 5/", 1, 7);
        refused("missinghalf;", 1, 0);
        refused("missing 5;", 1, 8);
        refused("missing past;", 1, 8);
        refused("missing halfs;", 1, 8);
        refused("missing half half;", 1, 13);
        refused("weights skip;", 1, 8);
        refused("weights alike past;", 1, 14);
        refused("copy 5;", 1, 6);
        refused("copy 5 6 7;", 1, 9);
        refused("yes 1 2 3 4 5 6 7 8 9 10;", 1, 24);
        refused("yes 1 2 3 4 5 6 7 8 9 10 11 12;", 1, 28);
        refused("yes 1 2 3 4 5 6 7 8 9 10 11 5000;", 1, 28);
        refused("no 1 2 3 4 5 6 7 8 9 10 no", 1, 24);
        refused("least 5;;", 1, 8);
        refused("least 5;x", 1, 8);
        refused("least 5; 12345", 1, 9);
        refused("least 5;\u0000", 1, 8);
        refused("least 5;\u00e9", 1, 8);
        refused("skip;", 1, 0);
    }

    private static void rangeFaults() {
        refused("least 0;", 2, 6);
        refused("least 100;", 2, 6);
        refused("least 9999", 2, 6);
        refused("copy 0 1;", 2, 5);
        refused("copy 31 100;", 2, 5);
        refused("copy 30 100;", 2, 8);
        refused("copy 30 0;", 2, 8);
        refused("yes 1001;", 2, 4);
        refused("no 0 0 0 0 0 0 0 0 0 0 1001;", 2, 23);
        refused("no 0 0 0 0 0 0 0 0 0 0 1000;least 0 5;", 2, 34);
    }

    private static void twiceFaults() {
        refused("least 5;least 5;", 3, 8);
        refused("least 5;missing half; least", 3, 22);
        refused("missing skip;missing half;", 3, 13);
        refused("weights past;weights;", 3, 13);
        refused("copy 1 1;copy 0 0;", 3, 9);
        refused("yes 1 2 3 4 5 6 7 8 9 10 11;yes;", 3, 28);
        refused("no 1 2 3 4 5 6 7 8 9 10 11;no;", 3, 27);
        refused("no 1 2 3 4 5 6 7 8 9 10 11;least 0;no;", 2, 33);
    }

    private static void rulesStayWithAFault() {
        ForeBook x = new ForeBook();
        Due.rules(x, "least 5;copy 6 7;");
        due.same("a fault", Due.rules(x, "least 9;copy 8 8;missing half;weights past;yes 1;"), ForeBook.NONE);
        due.same("least", x.rule(4), 5);
        due.same("copy days", x.rule(2), 6);
        due.same("copy times", x.rule(3), 7);
        due.same("missing", x.rule(0), 0);
        due.same("weights", x.rule(1), 0);
        due.same("yes", x.rule(10), 100);
        fault(x, "cut off", 1, 48);
        due.same("a good text", Due.rules(x, "least 4;"), 1);
        due.same("no fault", x.fault(0), 0);
        due.same("no place", x.fault(1), ForeBook.NONE);
    }

    private static void wrongWhats() {
        ForeBook x = new ForeBook();
        int[] wrongRules = {-1, 5, 9, 21, 29, 41, Integer.MIN_VALUE, Integer.MAX_VALUE};
        for (int what : wrongRules) {
            due.same("rule " + what, x.rule(what), -9);
        }
        int[] wrongFaults = {-1, 2, Integer.MIN_VALUE, Integer.MAX_VALUE};
        for (int what : wrongFaults) {
            due.same("fault " + what, x.fault(what), ForeBook.NONE);
        }
    }
}
