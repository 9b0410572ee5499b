import java.util.regex.Matcher;
import java.util.regex.Pattern;

/**
 * The grammar of a text of rules, told as a pattern over its tokens: whether a text can go on with a
 * token is asked of the pattern itself, prefix by prefix.
 */
final class NaiveText {
    /** A letter for each word that means something, N, ; and x for what no text has. */
    private static final String WORDS = "y=yes n=no m=missing w=weights c=copy l=least s=skip h=half a=alike p=past ";
    private static final Pattern TEXT = Pattern.compile("((yN{11}|nN{11}|m[sh]|w[ap]|cNN|lN);)*");
    private static final Pattern TOKEN = Pattern.compile("[a-z]+|[0-9]+|[^ \n]", Pattern.DOTALL);

    int kind;
    int place = -1;
    int lines;

    NaiveText(String text) {
        StringBuilder seen = new StringBuilder();
        Matcher token = TOKEN.matcher(text);
        while (kind == 0 && token.find()) {
            seen.append(letterOf(token.group()));
            kind = kindOfLast(seen.toString(), token.group());
            place = kind == 0 ? -1 : token.start();
        }
        if (kind == 0 && !TEXT.matcher(seen).matches()) {
            kind = 1;
            place = text.length();
        }
        lines = kind == 0 ? (int) seen.chars().filter(c -> c == ';').count() : -1;
    }

    private static char letterOf(String token) {
        if (token.matches("[0-9]+")) {
            return token.length() <= 4 ? 'N' : 'x';
        }
        if (token.equals(";")) {
            return ';';
        }
        int at = token.matches("[a-z]+") ? WORDS.indexOf("=" + token + " ") : -1;
        return at < 0 ? 'x' : WORDS.charAt(at - 1);
    }

    private static int kindOfLast(String seen, String token) {
        Matcher whole = TEXT.matcher(seen);
        if (!whole.matches() && !whole.hitEnd()) {
            return 1;
        }
        int start = seen.lastIndexOf(';', seen.length() - 2) + 1;
        char line = seen.charAt(start);
        int nth = seen.length() - 1 - start;
        if (seen.endsWith("N")) {
            int number = Integer.parseInt(token);
            return number < lowOf(line) || number > highOf(line, nth) ? 2 : 0;
        }
        return nth == 0 && seen.indexOf(line) < start ? 3 : 0;
    }

    private static int lowOf(char line) {
        return line == 'y' || line == 'n' ? 0 : 1;
    }

    private static int highOf(char line, int nth) {
        if (line == 'y' || line == 'n') {
            return 1000;
        }
        return line == 'c' && nth == 1 ? 30 : 99;
    }
}
