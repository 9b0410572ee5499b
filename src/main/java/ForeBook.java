import java.util.Arrays;

/**
 * A book of those who foresee: guesses in tenths on dated questions, what they cost by a told
 * table, numbers joined from many, skill told apart from luck, and questions that hang together.
 *
 * <p>This class looks at the arguments of each call; the classes inside it do the work and take
 * only numbers that were looked at already.
 */
public final class ForeBook {
    public static final int NONE = -1;
    public static final int RANGE = -2;
    public static final int FULL = -3;
    public static final int STATE = -4;

    private static final int NO_SUCH_RULE = -9;

    private static final int DAYS = 1000;
    private static final int TENTHS = 11;
    private static final int TOP_TENTH = 10;
    private static final int HALF_TENTH = 5;
    private static final int GUESSERS = 20;
    private static final int MOST_QUESTIONS = 20;
    private static final int MOST_OPEN_DAYS = 60;
    private static final int MOST_GUESSES = 300;
    private static final int MOST_TIES = 30;
    private static final int MOST_MENDED = 4;
    private static final int MOST_BYTES = 500;
    private static final int BYTES_OF_A_FEED = 20;
    private static final int MOST_COST = 1000;

    private static final int TOLD_NO = 0;
    private static final int TOLD_YES = 1;
    private static final int NOT_TOLD = 3;

    private final Tape tape;
    private final RuleReader reader;
    private final Rules rules;
    private final Book book;
    private final Costs costs;
    private final Crowd crowd;
    private final Ties ties;
    private final Mender mender;

    public ForeBook() {
        tape = new Tape();
        reader = new RuleReader(tape);
        rules = new Rules();
        book = new Book();
        costs = new Costs(book, rules);
        crowd = new Crowd(book, rules, costs);
        ties = new Ties(book);
        mender = new Mender(book, ties);
    }

    public int feed(int a, int b, int c, int d, int e) {
        if (tape.length + BYTES_OF_A_FEED > MOST_BYTES) {
            return FULL;
        }
        tape.append(a);
        tape.append(b);
        tape.append(c);
        tape.append(d);
        tape.append(e);
        return tape.length;
    }

    public int end(int n) {
        if (n < 0 || n > tape.length) {
            return NONE;
        }
        tape.length = n;
        return n;
    }

    public int rules() {
        int lines = reader.readText();
        tape.length = 0;
        if (lines != NONE) {
            rules.copyFrom(reader.draft);
            book.version++;
        }
        return lines;
    }

    public int fault(int what) {
        switch (what) {
            case 0:
                return reader.faultKind;
            case 1:
                return reader.faultPlace;
            default:
                return NONE;
        }
    }

    public int rule(int what) {
        if (what >= 10 && what < 10 + TENTHS) {
            return rules.yes[what - 10];
        }
        if (what >= 30 && what < 30 + TENTHS) {
            return rules.no[what - 30];
        }
        switch (what) {
            case 0:
                return rules.missing;
            case 1:
                return rules.weights;
            case 2:
                return rules.copyDays;
            case 3:
                return rules.copyTimes;
            case 4:
                return rules.least;
            default:
                return NO_SUCH_RULE;
        }
    }

    // ---- questions, guesses

    public int question(int from, int to) {
        if (!isDay(from) || !isDay(to) || to < from || to - from >= MOST_OPEN_DAYS) {
            return RANGE;
        }
        if (book.questionCount >= MOST_QUESTIONS) {
            return FULL;
        }
        return book.addQuestion(from, to);
    }

    public int tell(int q, int how, int known) {
        if (!book.hasQuestion(q)) {
            return RANGE;
        }
        Question told = book.questions[q];
        boolean settles = how == TOLD_NO || how == TOLD_YES;
        if (settles ? !isDay(known) || known < told.from : known != 0) {
            return RANGE;
        }
        if (how < TOLD_NO || how > NOT_TOLD) {
            return RANGE;
        }
        int was = told.how;
        told.how = how;
        told.known = settles ? known : NONE;
        book.version++;
        return was;
    }

    public int guess(int g, int q, int day, int tenth) {
        if (!isGuesser(g) || !book.hasQuestion(q) || !isTenth(tenth)) {
            return RANGE;
        }
        Question on = book.questions[q];
        if (day < on.from || day > on.to) {
            return RANGE;
        }
        if (on.how != NOT_TOLD || book.hasLaterGuess(g, q, day)) {
            return STATE;
        }
        if (book.guessCount >= MOST_GUESSES) {
            return FULL;
        }
        return book.addGuess(g, q, day, tenth);
    }

    public int holds(int g, int q, int day) {
        if (!isGuesser(g) || !book.hasQuestion(q) || !isDay(day)) {
            return RANGE;
        }
        return book.heldTenth(g, q, day);
    }

    // ---- costs

    public int rows(int g, int q, int what) {
        if (!isGuesser(g) || !book.hasQuestion(q) || !isZeroOrOne(what)) {
            return RANGE;
        }
        costs.refresh();
        return what == 0 ? costs.rowCount[cell(g, q)] : costs.rowSum[cell(g, q)];
    }

    public int mean(int g, int what) {
        if (!isGuesser(g) || !isZeroOrOne(what)) {
            return RANGE;
        }
        costs.refresh();
        if (!costs.hasMean(g)) {
            return 0;
        }
        return what == 0 ? costs.meanAbove(g) : costs.meanBelow(g);
    }

    public int ranked(int i) {
        costs.refresh();
        return costs.guesserAtRank(i);
    }

    public int pays(int k) {
        return isTenth(k) ? costs.bestTenthToSay(k) : RANGE;
    }

    public int honest() {
        return costs.leastDishonestBelief();
    }

    // ---- joined

    public int copies(int g, int of) {
        if (!isGuesser(g) || !isGuesser(of) || g == of) {
            return RANGE;
        }
        return rules.tellsCopy() ? crowd.countCopies(g, of) : STATE;
    }

    public int weight(int g, int day) {
        if (!isGuesser(g) || !isDay(day)) {
            return RANGE;
        }
        crowd.refresh();
        return crowd.weightOn(g, day);
    }

    public int joined(int q, int day) {
        if (!book.hasQuestion(q) || !isDay(day)) {
            return RANGE;
        }
        crowd.refresh();
        return crowd.joinedTenth(q, day);
    }

    public int together(int q, int what) {
        if (!book.hasQuestion(q) || !isZeroOrOne(what)) {
            return RANGE;
        }
        crowd.refresh();
        return what == 0 ? crowd.joinedRows(q) : crowd.joinedSum(q);
    }

    public long luck(int g, int what) {
        if (!isGuesser(g) || what < 0 || what > 2) {
            return RANGE;
        }
        crowd.refresh();
        crowd.compareWithJoined(g);
        switch (what) {
            case 0:
                return crowd.unlike;
            case 1:
                return crowd.better;
            default:
                return Crowd.rowsWithHeads(crowd.unlike, crowd.better);
        }
    }

    // ---- ties

    public int tie(int q, int r, int kind) {
        if (!book.hasQuestion(q) || !book.hasQuestion(r) || q == r) {
            return RANGE;
        }
        if (kind < Ties.MAKES_SURE || kind > Ties.ONE_AT_LEAST) {
            return RANGE;
        }
        return ties.size < MOST_TIES ? ties.append(q, r, kind) : FULL;
    }

    public int pumps(int g, int day) {
        return isGuesser(g) && isDay(day) ? ties.brokenBits(g, day) : RANGE;
    }

    public int mend(int g, int day, int set) {
        if (!isGuesser(g) || !isDay(day) || set < 1 || set >> book.questionCount != 0) {
            return RANGE;
        }
        if (Integer.bitCount(set) > MOST_MENDED) {
            return FULL;
        }
        return mender.choose(g, day, set) ? mender.leastChange() : STATE;
    }

    public int mended(int q) {
        return book.hasQuestion(q) ? mender.latestRow[q] : NONE;
    }

    public int about(int q, int what) {
        if (!book.hasQuestion(q)) {
            return NONE;
        }
        Question asked = book.questions[q];
        switch (what) {
            case 0:
                return asked.from;
            case 1:
                return asked.to;
            case 2:
                return asked.how;
            case 3:
                return asked.known;
            case 4:
                return asked.guesses;
            default:
                return NONE;
        }
    }

    public int count(int what) {
        switch (what) {
            case 0:
                return book.questionCount;
            case 1:
                return book.guessCount;
            case 2:
                return ties.size;
            case 3:
                return tape.length;
            case 4:
                costs.refresh();
                return costs.guessersWithMean();
            default:
                return NONE;
        }
    }

    private static boolean isDay(int day) {
        return day >= 0 && day < DAYS;
    }

    private static boolean isGuesser(int g) {
        return g >= 0 && g < GUESSERS;
    }

    private static boolean isTenth(int tenth) {
        return tenth >= 0 && tenth < TENTHS;
    }

    private static boolean isZeroOrOne(int what) {
        return what == 0 || what == 1;
    }

    /** Where a guesser's affairs with a question stand in a table of all such pairs. */
    private static int cell(int g, int q) {
        return g * MOST_QUESTIONS + q;
    }

    /** Where a guesser's affairs with another one stand in a table of all such pairs. */
    private static int pair(int g, int of) {
        return g * GUESSERS + of;
    }

    /** Bytes that wait to be read as rules. */
    private static final class Tape {
        final byte[] bytes = new byte[MOST_BYTES];
        int length;

        /** Four bytes, the highest first; the caller has seen that there is room. */
        void append(int four) {
            for (int shift = 24; shift >= 0 && length < MOST_BYTES; shift -= 8) {
                bytes[length] = (byte) (four >> shift);
                length++;
            }
        }
    }

    /** What a text of rules tells, with what holds where it tells nothing. */
    private static final class Rules {
        final int[] yes = new int[TENTHS];
        final int[] no = new int[TENTHS];
        int missing;
        int weights;
        int copyDays;
        int copyTimes;
        int least;

        Rules() {
            reset();
        }

        void reset() {
            for (int t = 0; t < TENTHS; t++) {
                yes[t] = (TOP_TENTH - t) * (TOP_TENTH - t);
                no[t] = t * t;
            }
            missing = 0;
            weights = 0;
            copyDays = NONE;
            copyTimes = NONE;
            least = 1;
        }

        void copyFrom(Rules other) {
            System.arraycopy(other.yes, 0, yes, 0, TENTHS);
            System.arraycopy(other.no, 0, no, 0, TENTHS);
            missing = other.missing;
            weights = other.weights;
            copyDays = other.copyDays;
            copyTimes = other.copyTimes;
            least = other.least;
        }

        boolean countsMissingAsHalf() {
            return missing == 1;
        }

        boolean weighsByPast() {
            return weights == 1;
        }

        boolean tellsCopy() {
            return copyDays != NONE;
        }

        int cost(int how, int tenth) {
            return how == TOLD_YES ? yes[tenth] : no[tenth];
        }
    }

    /** Reads the tape as a text of rules, token by token, up to its end or its first fault. */
    private static final class RuleReader {
        private static final int SYNTAX = 1;
        private static final int OUT_OF_BOUNDS = 2;
        private static final int TWICE = 3;

        /** Kinds of bytes, and of the tokens that begin with one. */
        private static final int AT_END = 0;
        private static final int BLANK = 1;
        private static final int WORD = 2;
        private static final int NUMBER = 3;
        private static final int SEMICOLON = 4;
        private static final int UNKNOWN = 5;

        private static final int LINE_YES = 0;
        private static final int LINE_NO = 1;
        private static final int LINE_MISSING = 2;
        private static final int LINE_WEIGHTS = 3;
        private static final int LINE_COPY = 4;
        private static final int LINE_LEAST = 5;

        private static final int MOST_DIGITS = 4;

        final Rules draft = new Rules();
        int faultKind;
        int faultPlace = NONE;

        private final Tape tape;
        private int token;
        private int start;
        private int next;
        /** The line that is being read, or NONE between lines. */
        private int line;
        private int taken;
        private int lines;
        private int toldLines;
        private boolean isOver;

        RuleReader(Tape tape) {
            this.tape = tape;
        }

        /** How many lines the tape has, told to the draft; NONE with a fault. */
        int readText() {
            begin();
            for (int i = 0; i <= MOST_BYTES && !isOver; i++) {
                readToken();
                takeToken();
            }
            return faultKind == 0 ? lines : NONE;
        }

        private void begin() {
            draft.reset();
            faultKind = 0;
            faultPlace = NONE;
            next = 0;
            line = NONE;
            lines = 0;
            toldLines = 0;
            isOver = false;
        }

        private void takeToken() {
            if (line == NONE) {
                startLine();
            } else if (taken < tokensBehind(line)) {
                takeArgument();
                taken++;
            } else if (token == SEMICOLON) {
                lines++;
                line = NONE;
            } else {
                setFault(SYNTAX);
            }
        }

        private void startLine() {
            if (token == AT_END) {
                isOver = true;
                return;
            }
            int told = lineOfWord();
            if (told == NONE) {
                setFault(SYNTAX);
            } else if ((toldLines >> told & 1) == 1) {
                setFault(TWICE);
            } else {
                toldLines |= 1 << told;
                line = told;
                taken = 0;
            }
        }

        private int lineOfWord() {
            if (isWord("yes")) {
                return LINE_YES;
            }
            if (isWord("no")) {
                return LINE_NO;
            }
            if (isWord("missing")) {
                return LINE_MISSING;
            }
            if (isWord("weights")) {
                return LINE_WEIGHTS;
            }
            if (isWord("copy")) {
                return LINE_COPY;
            }
            return isWord("least") ? LINE_LEAST : NONE;
        }

        private static int tokensBehind(int line) {
            switch (line) {
                case LINE_YES:
                case LINE_NO:
                    return TENTHS;
                case LINE_COPY:
                    return 2;
                default:
                    return 1;
            }
        }

        private void takeArgument() {
            switch (line) {
                case LINE_YES:
                    draft.yes[taken] = takeNumber(0, MOST_COST);
                    break;
                case LINE_NO:
                    draft.no[taken] = takeNumber(0, MOST_COST);
                    break;
                case LINE_MISSING:
                    draft.missing = takeChoice("skip", "half");
                    break;
                case LINE_WEIGHTS:
                    draft.weights = takeChoice("alike", "past");
                    break;
                case LINE_COPY:
                    takeOfCopy();
                    break;
                default:
                    draft.least = takeNumber(1, 99);
                    break;
            }
        }

        private void takeOfCopy() {
            if (taken == 0) {
                draft.copyDays = takeNumber(1, 30);
            } else {
                draft.copyTimes = takeNumber(1, 99);
            }
        }

        private int takeChoice(String zero, String one) {
            if (isWord(one)) {
                return 1;
            }
            if (!isWord(zero)) {
                setFault(SYNTAX);
            }
            return 0;
        }

        private int takeNumber(int low, int high) {
            if (token != NUMBER) {
                setFault(SYNTAX);
                return low;
            }
            int value = 0;
            for (int i = start; i < next; i++) {
                value = value * 10 + tape.bytes[i] - '0';
            }
            if (value < low || value > high) {
                setFault(OUT_OF_BOUNDS);
            }
            return value;
        }

        private void setFault(int kind) {
            faultKind = kind;
            faultPlace = start;
            isOver = true;
        }

        /** Words and numbers go on as far as they can; any other token is one byte. */
        private void readToken() {
            while (next < tape.length && kindAt(next) == BLANK) {
                next++;
            }
            start = next;
            token = kindAt(start);
            if (token == AT_END) {
                return;
            }
            next++;
            boolean isRun = token == WORD || token == NUMBER;
            while (isRun && next < tape.length && kindAt(next) == token) {
                next++;
            }
            if (token == NUMBER && next - start > MOST_DIGITS) {
                token = UNKNOWN;
            }
        }

        private int kindAt(int place) {
            if (place < 0 || place >= tape.length || place >= MOST_BYTES) {
                return AT_END;
            }
            int sign = tape.bytes[place];
            if (sign == 32 || sign == 10) {
                return BLANK;
            }
            if (sign >= 'a' && sign <= 'z') {
                return WORD;
            }
            if (sign >= '0' && sign <= '9') {
                return NUMBER;
            }
            return sign == ';' ? SEMICOLON : UNKNOWN;
        }

        private boolean isWord(String word) {
            if (token != WORD || next - start != word.length()) {
                return false;
            }
            for (int i = 0; i < word.length(); i++) {
                if (tape.bytes[start + i] != word.charAt(i)) {
                    return false;
                }
            }
            return true;
        }
    }

    private static final class Question {
        int from;
        int to;
        int how = NOT_TOLD;
        int known = NONE;
        int guesses;

        boolean isSettled() {
            return how == TOLD_NO || how == TOLD_YES;
        }

        /** The day behind the last one that can be a row; from, if none can. */
        int endOfRows() {
            return isSettled() ? Math.min(to + 1, known) : from;
        }
    }

    private static final class Guess {
        final int guesser;
        final int question;
        final int day;
        final int tenth;
        /** The same guesser's guess on the same question that came just ahead of this, or null. */
        final Guess before;

        Guess(int guesser, int question, int day, int tenth, Guess before) {
            this.guesser = guesser;
            this.question = question;
            this.day = day;
            this.tenth = tenth;
            this.before = before;
        }
    }

    /** Questions and guesses as they were told. */
    private static final class Book {
        final Question[] questions = new Question[MOST_QUESTIONS];
        final Guess[] latest = new Guess[GUESSERS * MOST_QUESTIONS];
        /** All guesses by their days, those of one day as they came. */
        final Guess[] byDay = new Guess[MOST_GUESSES];
        int questionCount;
        int guessCount;
        /** Goes up with each change, so that who keeps what follows from the book sees it is old. */
        int version;

        Book() {
            for (int q = 0; q < MOST_QUESTIONS; q++) {
                questions[q] = new Question();
            }
        }

        boolean hasQuestion(int q) {
            return q >= 0 && q < questionCount;
        }

        int addQuestion(int from, int to) {
            int number = questionCount;
            questions[number].from = from;
            questions[number].to = to;
            questionCount++;
            version++;
            return number;
        }

        int addGuess(int g, int q, int day, int tenth) {
            int number = guessCount;
            Guess made = new Guess(g, q, day, tenth, latest[cell(g, q)]);
            latest[cell(g, q)] = made;
            int place = number;
            while (place > 0 && isBehind(byDay[place - 1], day)) {
                byDay[place] = byDay[place - 1];
                place--;
            }
            byDay[place] = made;
            questions[q].guesses++;
            guessCount++;
            version++;
            return number;
        }

        boolean hasLaterGuess(int g, int q, int day) {
            return isBehind(latest[cell(g, q)], day);
        }

        private static boolean isBehind(Guess made, int day) {
            return made != null && made.day > day;
        }

        /** Of a guesser and a question the latest guess told on a day or ahead of it, or null. */
        Guess latestUpTo(int cell, int day) {
            Guess found = latest[cell];
            while (found != null && found.day > day) {
                found = found.before;
            }
            return found;
        }

        int heldTenth(int g, int q, int day) {
            Guess found = latestUpTo(cell(g, q), day);
            return found == null ? NONE : found.tenth;
        }
    }

    /** Rows and means of all guessers, and what the table of costs makes it pay to say. */
    private static final class Costs {
        /** Far above what two ints need to come to their greatest divisor. */
        private static final int MOST_DIVISIONS = 100;

        final int[] rowCount = new int[GUESSERS * MOST_QUESTIONS];
        final int[] rowSum = new int[GUESSERS * MOST_QUESTIONS];

        private final Book book;
        private final Rules rules;
        private final int[] totalCount = new int[GUESSERS];
        private final int[] totalSum = new int[GUESSERS];
        private int seenVersion = NONE;

        Costs(Book book, Rules rules) {
            this.book = book;
            this.rules = rules;
        }

        /** The tables are made anew only when the book has changed: luck asks them very often. */
        void refresh() {
            if (seenVersion == book.version) {
                return;
            }
            seenVersion = book.version;
            for (int g = 0; g < GUESSERS; g++) {
                totalCount[g] = 0;
                totalSum[g] = 0;
                for (int q = 0; q < book.questionCount; q++) {
                    fillRows(cell(g, q), book.questions[q]);
                    addToTotal(g, cell(g, q));
                }
            }
        }

        /** From the latest guess back: each is held from its day up to the one behind it. */
        private void fillRows(int cell, Question on) {
            rowCount[cell] = 0;
            rowSum[cell] = 0;
            Guess held = book.latest[cell];
            if (held == null || !on.isSettled()) {
                return;
            }
            int end = on.endOfRows();
            while (held != null) {
                if (held.day < end) {
                    addRows(cell, end - held.day, rules.cost(on.how, held.tenth));
                    end = held.day;
                }
                held = held.before;
            }
            if (rules.countsMissingAsHalf()) {
                addRows(cell, end - on.from, rules.cost(on.how, HALF_TENTH));
            }
        }

        private void addRows(int cell, int days, int cost) {
            rowCount[cell] += days;
            rowSum[cell] += days * cost;
        }

        private void addToTotal(int g, int cell) {
            if (doesCount(cell)) {
                totalCount[g] += rowCount[cell];
                totalSum[g] += rowSum[cell];
            }
        }

        boolean doesCount(int cell) {
            return rowCount[cell] >= rules.least;
        }

        /** What one day costs a guesser who guessed on the question at some time; NONE: no row. */
        int costOnDay(int g, int q, int day) {
            int tenth = book.heldTenth(g, q, day);
            if (tenth == NONE && rules.countsMissingAsHalf()) {
                tenth = HALF_TENTH;
            }
            return tenth == NONE ? NONE : rules.cost(book.questions[q].how, tenth);
        }

        boolean hasMean(int g) {
            return totalCount[g] > 0;
        }

        int meanAbove(int g) {
            return totalSum[g] / greatestDivisor(totalSum[g], totalCount[g]);
        }

        int meanBelow(int g) {
            return totalCount[g] / greatestDivisor(totalSum[g], totalCount[g]);
        }

        /** At least 1, so that it can divide. */
        private static int greatestDivisor(int one, int other) {
            int a = one;
            int b = other;
            for (int step = 0; step < MOST_DIVISIONS && b > 0; step++) {
                int rest = a % b;
                a = b;
                b = rest;
            }
            return Math.max(a, 1);
        }

        int guessersWithMean() {
            int found = 0;
            for (int g = 0; g < GUESSERS; g++) {
                if (hasMean(g)) {
                    found++;
                }
            }
            return found;
        }

        int guesserAtRank(int rank) {
            for (int g = 0; g < GUESSERS; g++) {
                if (hasMean(g) && rankOf(g) == rank) {
                    return g;
                }
            }
            return NONE;
        }

        private int rankOf(int g) {
            int ahead = 0;
            for (int other = 0; other < GUESSERS; other++) {
                if (hasMean(other) && isAhead(other, g)) {
                    ahead++;
                }
            }
            return ahead;
        }

        private boolean isAhead(int one, int other) {
            long left = (long) totalSum[one] * totalCount[other];
            long right = (long) totalSum[other] * totalCount[one];
            return left < right || left == right && one < other;
        }

        int bestTenthToSay(int belief) {
            int best = 0;
            for (int t = 1; t < TENTHS; t++) {
                if (expectedCost(belief, t) < expectedCost(belief, best)) {
                    best = t;
                }
            }
            return best;
        }

        int leastDishonestBelief() {
            for (int k = 0; k < TENTHS; k++) {
                if (!paysAlone(k)) {
                    return k;
                }
            }
            return NONE;
        }

        private boolean paysAlone(int belief) {
            int due = expectedCost(belief, belief);
            for (int t = 0; t < TENTHS; t++) {
                if (t != belief && expectedCost(belief, t) <= due) {
                    return false;
                }
            }
            return true;
        }

        private int expectedCost(int belief, int tenth) {
            return belief * rules.yes[tenth] + (TOP_TENTH - belief) * rules.no[tenth];
        }
    }

    /** What many hold, joined to one number, and how a guesser does beside it. */
    private static final class Crowd {
        private static final int NOT_JOINED_YET = -2;

        int unlike;
        int better;

        private final Book book;
        private final Rules rules;
        private final Costs costs;
        /** For a guesser and another one the day from which on the first is a copier of the other. */
        private final int[] copierFrom = new int[GUESSERS * GUESSERS];
        private final int[] copyCount = new int[GUESSERS * GUESSERS];
        private final int[] joinedByDay = new int[MOST_QUESTIONS * MOST_OPEN_DAYS];
        private final int[] heldNow = new int[GUESSERS];
        private final int[] weightAtTenth = new int[TENTHS];
        private int seenVersion = NONE;

        Crowd(Book book, Rules rules, Costs costs) {
            this.book = book;
            this.rules = rules;
            this.costs = costs;
        }

        void refresh() {
            costs.refresh();
            if (seenVersion == book.version) {
                return;
            }
            seenVersion = book.version;
            Arrays.fill(joinedByDay, NOT_JOINED_YET);
            findCopiers();
        }

        int countCopies(int g, int of) {
            int found = 0;
            for (int i = 0; i < book.guessCount; i++) {
                Guess made = book.byDay[i];
                if (made != null && made.guesser == g && isCopy(made, of)) {
                    found++;
                }
            }
            return found;
        }

        private boolean isCopy(Guess made, int of) {
            Guess seen = book.latestUpTo(cell(of, made.question), made.day - 1);
            return seen != null && seen.tenth == made.tenth && made.day - seen.day <= rules.copyDays;
        }

        /** By days, so that the copy that is one too many tells from when on they are a copier. */
        private void findCopiers() {
            Arrays.fill(copierFrom, DAYS);
            if (!rules.tellsCopy()) {
                return;
            }
            Arrays.fill(copyCount, 0);
            for (int i = 0; i < book.guessCount; i++) {
                for (int of = 0; of < GUESSERS; of++) {
                    noteCopy(book.byDay[i], of);
                }
            }
        }

        private void noteCopy(Guess made, int of) {
            if (made == null || made.guesser == of || !isCopy(made, of)) {
                return;
            }
            int at = pair(made.guesser, of);
            copyCount[at]++;
            if (copyCount[at] == rules.copyTimes) {
                copierFrom[at] = made.day;
            }
        }

        int weightOn(int g, int day) {
            if (!rules.weighsByPast()) {
                return 1;
            }
            int plain = 0;
            int paid = 0;
            for (int q = 0; q < book.questionCount; q++) {
                Question past = book.questions[q];
                int cell = cell(g, q);
                if (past.isSettled() && past.known < day && costs.doesCount(cell)) {
                    plain += costs.rowCount[cell] * rules.cost(past.how, HALF_TENTH);
                    paid += costs.rowSum[cell];
                }
            }
            return plain > paid ? 1 + 100 * (plain - paid) / plain : 1;
        }

        /** Kept for days on which a question can be open, as together and luck go over them. */
        int joinedTenth(int q, int day) {
            int since = day - book.questions[q].from;
            if (since < 0) {
                return NONE;
            }
            if (since >= MOST_OPEN_DAYS) {
                return joinHeld(q, day);
            }
            int at = q * MOST_OPEN_DAYS + since;
            if (joinedByDay[at] == NOT_JOINED_YET) {
                joinedByDay[at] = joinHeld(q, day);
            }
            return joinedByDay[at];
        }

        private int joinHeld(int q, int day) {
            for (int g = 0; g < GUESSERS; g++) {
                heldNow[g] = book.heldTenth(g, q, day);
            }
            Arrays.fill(weightAtTenth, 0);
            int all = 0;
            for (int g = 0; g < GUESSERS; g++) {
                if (heldNow[g] != NONE && !copiesAHolder(g, day)) {
                    int weighs = weightOn(g, day);
                    weightAtTenth[heldNow[g]] += weighs;
                    all += weighs;
                }
            }
            return all == 0 ? NONE : tenthAtHalf(all);
        }

        private boolean copiesAHolder(int g, int day) {
            for (int of = 0; of < GUESSERS; of++) {
                if (heldNow[of] != NONE && copierFrom[pair(g, of)] <= day) {
                    return true;
                }
            }
            return false;
        }

        private int tenthAtHalf(int all) {
            int upTo = 0;
            for (int t = 0; t < TENTHS; t++) {
                upTo += weightAtTenth[t];
                if (2 * upTo >= all) {
                    return t;
                }
            }
            return TOP_TENTH;
        }

        int joinedRows(int q) {
            Question on = book.questions[q];
            int found = 0;
            for (int day = on.from; day < on.endOfRows(); day++) {
                if (joinedTenth(q, day) != NONE) {
                    found++;
                }
            }
            return found;
        }

        int joinedSum(int q) {
            Question on = book.questions[q];
            int sum = 0;
            for (int day = on.from; day < on.endOfRows(); day++) {
                int tenth = joinedTenth(q, day);
                if (tenth != NONE) {
                    sum += rules.cost(on.how, tenth);
                }
            }
            return sum;
        }

        void compareWithJoined(int g) {
            unlike = 0;
            better = 0;
            for (int q = 0; q < book.questionCount; q++) {
                if (costs.doesCount(cell(g, q))) {
                    int over = costOverJoined(g, q);
                    unlike += over != 0 ? 1 : 0;
                    better += over < 0 ? 1 : 0;
                }
            }
        }

        /** How much more a guesser's rows cost than what was joined, on days that have both. */
        private int costOverJoined(int g, int q) {
            Question on = book.questions[q];
            int over = 0;
            for (int day = on.from; day < on.endOfRows(); day++) {
                int tenth = joinedTenth(q, day);
                int own = costs.costOnDay(g, q, day);
                if (tenth != NONE && own != NONE) {
                    over += own - rules.cost(on.how, tenth);
                }
            }
            return over;
        }

        /** In how many of all rows of that many tosses there are so many heads or more. */
        static long rowsWithHeads(int tosses, int heads) {
            long withJust = 1;
            long found = 0;
            for (int i = 0; i <= tosses; i++) {
                if (i >= heads) {
                    found += withJust;
                }
                withJust = withJust * (tosses - i) / (i + 1);
            }
            return found;
        }
    }

    /** Questions that hang together, and whether what one holds of them can be. */
    private static final class Ties {
        static final int MAKES_SURE = 0;
        static final int NOT_BOTH = 1;
        static final int ONE_AT_LEAST = 2;

        final int[] first = new int[MOST_TIES];
        final int[] second = new int[MOST_TIES];
        final int[] kind = new int[MOST_TIES];
        int size;

        private final Book book;

        Ties(Book book) {
            this.book = book;
        }

        int append(int q, int r, int newKind) {
            int number = size;
            first[number] = q;
            second[number] = r;
            kind[number] = newKind;
            size++;
            return number;
        }

        int brokenBits(int g, int day) {
            int bits = 0;
            for (int i = 0; i < size; i++) {
                int one = book.heldTenth(g, first[i], day);
                int other = book.heldTenth(g, second[i], day);
                if (one != NONE && other != NONE && isBroken(kind[i], one, other)) {
                    bits |= 1 << i;
                }
            }
            return bits;
        }

        private static boolean isBroken(int kind, int one, int other) {
            switch (kind) {
                case MAKES_SURE:
                    return one > other;
                case NOT_BOTH:
                    return one + other > TOP_TENTH;
                default:
                    return one + other < TOP_TENTH;
            }
        }
    }

    /** Finds the least change of what one holds that breaks no tie. */
    private static final class Mender {
        final int[] latestRow = new int[MOST_QUESTIONS];

        private final Book book;
        private final Ties ties;
        private final int[] chosen = new int[MOST_MENDED];
        private final int[] held = new int[MOST_MENDED];
        private final int[] tried = new int[MOST_MENDED];
        private final int[] best = new int[MOST_MENDED];
        private int size;
        private int bestSum;

        Mender(Book book, Ties ties) {
            this.book = book;
            this.ties = ties;
            Arrays.fill(latestRow, NONE);
        }

        /** Takes a set of at most four questions; false, if the guesser holds nothing of one. */
        boolean choose(int g, int day, int set) {
            size = 0;
            for (int q = 0; q < book.questionCount && size < MOST_MENDED; q++) {
                if ((set >> q & 1) == 1) {
                    chosen[size] = q;
                    held[size] = book.heldTenth(g, q, day);
                    if (held[size] == NONE) {
                        return false;
                    }
                    size++;
                }
            }
            return true;
        }

        /** Fives all over break no tie, so that nothing dearer than they are need be tried. */
        int leastChange() {
            bestSum = 1;
            for (int i = 0; i < size; i++) {
                bestSum += Math.abs(held[i] - HALF_TENTH);
            }
            tryTenths(0, 0);
            Arrays.fill(latestRow, NONE);
            for (int i = 0; i < size; i++) {
                latestRow[chosen[i]] = best[i];
            }
            return bestSum;
        }

        /** Goes up from the least tenth, and takes what is better alone: the least row stays. */
        private void tryTenths(int place, int sum) {
            if (sum >= bestSum) {
                return;
            }
            if (place >= size) {
                bestSum = sum;
                System.arraycopy(tried, 0, best, 0, MOST_MENDED);
                return;
            }
            int highest = highestFor(place);
            for (int t = lowestFor(place); t <= highest; t++) {
                tried[place] = t;
                tryTenths(place + 1, sum + Math.abs(t - held[place]));
            }
        }

        private int lowestFor(int place) {
            int lowest = 0;
            for (int i = 0; i < ties.size; i++) {
                int other = placeTiedTo(place, i);
                if (other != NONE) {
                    lowest = Math.max(lowest, lowestByTie(i, place, tried[other]));
                }
            }
            return lowest;
        }

        private int lowestByTie(int i, int place, int other) {
            if (ties.kind[i] == Ties.ONE_AT_LEAST) {
                return TOP_TENTH - other;
            }
            boolean isMadeSure = ties.kind[i] == Ties.MAKES_SURE && ties.second[i] == chosen[place];
            return isMadeSure ? other : 0;
        }

        private int highestFor(int place) {
            int highest = TOP_TENTH;
            for (int i = 0; i < ties.size; i++) {
                int other = placeTiedTo(place, i);
                if (other != NONE) {
                    highest = Math.min(highest, highestByTie(i, place, tried[other]));
                }
            }
            return highest;
        }

        private int highestByTie(int i, int place, int other) {
            if (ties.kind[i] == Ties.NOT_BOTH) {
                return TOP_TENTH - other;
            }
            boolean makesSure = ties.kind[i] == Ties.MAKES_SURE && ties.first[i] == chosen[place];
            return makesSure ? other : TOP_TENTH;
        }

        /** The place ahead of this one that a tie ties to it, or NONE. */
        private int placeTiedTo(int place, int i) {
            for (int other = 0; other < place; other++) {
                boolean there = ties.first[i] == chosen[other] && ties.second[i] == chosen[place];
                boolean back = ties.second[i] == chosen[other] && ties.first[i] == chosen[place];
                if (there || back) {
                    return other;
                }
            }
            return NONE;
        }
    }
}
