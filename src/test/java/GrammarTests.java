import java.util.ArrayDeque;
import java.util.Deque;
import java.util.Random;
import java.util.regex.Matcher;
import java.util.regex.Pattern;

/**
 * Holds fault positions against recognisers of another kind: a regular expression for texts of ranges, and a machine
 * with a stack for expressions.
 */
public final class GrammarTests {
    private static final String NUMBER = "(?:0|[1-9][0-9]?)";
    private static final String VERSION = NUMBER + "\\." + NUMBER + "\\." + NUMBER + "(?:-" + NUMBER + ")?";
    private static final String PART = "(?:(?:<=|<|>=|>|=|\\^|~)?" + VERSION + "|\\*|" + NUMBER + "\\.x|" + NUMBER + "\\."
            + NUMBER + "\\.x)";
    private static final Pattern TEXT = Pattern.compile(PART + "(?:[ |]" + PART + ")*");
    private static final int MOST_OPEN = 8;

    private static final Check check = new Check();

    private GrammarTests() {
    }

    public static void main(String[] args) {
        shortTexts("10.x-* |<", 6);
        shortTexts("190.-", 8);
        mutatedTexts(new Random(1), 60000);
        shortExpressions("01!&(+)-", 6);
        mutatedExpressions(new Random(2), 60000);
        check.finish();
    }

    /** The number of characters that can begin a text, or -1 if it is one itself. */
    private static int faultOfText(String text) {
        for (int length = 0; length <= text.length(); length++) {
            Matcher matcher = TEXT.matcher(text.substring(0, length));
            boolean isWhole = matcher.matches();
            if (length == text.length() && isWhole) {
                return -1;
            }
            if (!isWhole && !matcher.hitEnd()) {
                return length - 1;
            }
        }
        return text.length();
    }

    private static int faultOfExpression(String text) {
        Deque<Character> open = new ArrayDeque<>();
        boolean wantsFactor = true;
        for (int at = 0; at < text.length(); at++) {
            char sign = text.charAt(at);
            if (wantsFactor && (sign == '!' || sign == '(') && open.size() < MOST_OPEN) {
                open.push(sign);
            } else if (wantsFactor && Character.isDigit(sign)) {
                boolean isLonger = sign != '0' && at + 1 < text.length() && Character.isDigit(text.charAt(at + 1));
                at += isLonger ? 1 : 0;
                wantsFactor = false;
                closeSigns(open);
            } else if (!wantsFactor && "+&-".indexOf(sign) >= 0) {
                wantsFactor = true;
            } else if (!wantsFactor && sign == ')' && !open.isEmpty()) {
                open.pop();
                closeSigns(open);
            } else {
                return at;
            }
        }
        return wantsFactor || !open.isEmpty() ? text.length() : -1;
    }

    private static void closeSigns(Deque<Character> open) {
        while (!open.isEmpty() && open.peek() == '!') {
            open.pop();
        }
    }

    private static void checkText(VersionAlgebra x, String text) {
        Check.read(x, 0, text);
        check.due("the fault of \"" + text + "\"", x.faultPosition(), faultOfText(text));
    }

    private static void checkExpression(VersionAlgebra x, String text) {
        Check.evaluate(x, 0, text);
        check.due("the fault of \"" + text + "\"", x.faultPosition(), faultOfExpression(text));
    }

    private static void shortTexts(String signs, int most) {
        VersionAlgebra x = new VersionAlgebra();
        for (int length = 0; length <= most; length++) {
            for (long number = 0; number < Math.round(Math.pow(signs.length(), length)); number++) {
                checkText(x, spelled(number, length, signs));
            }
        }
    }

    private static void shortExpressions(String signs, int most) {
        VersionAlgebra x = new VersionAlgebra();
        for (int length = 0; length <= most; length++) {
            for (long number = 0; number < Math.round(Math.pow(signs.length(), length)); number++) {
                checkExpression(x, spelled(number, length, signs));
            }
        }
    }

    private static String spelled(long number, int length, String signs) {
        StringBuilder text = new StringBuilder();
        long rest = number;
        for (int i = 0; i < length; i++) {
            text.append(signs.charAt((int) (rest % signs.length())));
            rest /= signs.length();
        }
        return text.toString();
    }

    private static void mutatedTexts(Random random, int count) {
        VersionAlgebra x = new VersionAlgebra();
        for (int i = 0; i < count; i++) {
            checkText(x, mutated(random, Texts.ofRange(random), "0123456789.x-*|<>=^~ X+\u00e9"));
        }
    }

    private static void mutatedExpressions(Random random, int count) {
        VersionAlgebra x = new VersionAlgebra();
        for (int i = 0; i < count; i++) {
            checkExpression(x, mutated(random, Texts.ofExpression(random, 9), "0123456789!!((()))+&- x|\u00e9"));
        }
    }

    private static String mutated(Random random, String text, String signs) {
        StringBuilder changed = new StringBuilder(text);
        int changes = random.nextInt(3);
        for (int i = 0; i < changes; i++) {
            int at = random.nextInt(changed.length() + 1);
            char sign = signs.charAt(random.nextInt(signs.length()));
            int kind = random.nextInt(3);
            if (kind == 0 && changed.length() < 60) {
                changed.insert(at, sign);
            } else if (kind == 1 && at < changed.length()) {
                changed.setCharAt(at, sign);
            } else if (at < changed.length()) {
                changed.deleteCharAt(at);
            }
        }
        return changed.substring(0, Math.min(60, changed.length()));
    }
}
