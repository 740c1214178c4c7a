import java.util.regex.Matcher;
import java.util.regex.Pattern;

/** The syntax error position, by a pattern for whole texts that is tried on every beginning of the text. */
final class NaiveSyntax {
    private static final Pattern TEXT = Pattern.compile(
        "(p[0-9][0-7]@[0-9]{1,3};"
        + "|l[0-9]\\+[0-9]{1,2};"
        + "|e[0-7]\\+[0-9]{1,2};"
        + "|s[0-9][0-7]:[0-9]{1,3}-[0-9]{1,3},[0-9]{1,2};"
        + "|d[0-9]{1,2};)*", Pattern.DOTALL);
    private static final Pattern ZERO = Pattern.compile("[+,](0{1,2})(?![0-9])");

    /** The position, or -1 if there is no syntax error. */
    static int errorPosition(String text) {
        int good = 0;
        while (good < text.length() && canGoOn(text.substring(0, good + 1))) {
            good++;
        }
        Matcher zero = ZERO.matcher(text);
        if (zero.find() && zero.end() <= good) {
            return zero.start(1);
        }
        return good == text.length() && TEXT.matcher(text).matches() ? -1 : good;
    }

    private static boolean canGoOn(String beginning) {
        Matcher matcher = TEXT.matcher(beginning);
        return matcher.matches() || matcher.hitEnd();
    }

    private NaiveSyntax() { }
}
