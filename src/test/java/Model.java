import java.util.ArrayDeque;
import java.util.ArrayList;
import java.util.Arrays;
import java.util.Deque;
import java.util.List;
import java.util.NoSuchElementException;
import java.util.TreeSet;
import java.util.function.IntPredicate;
import java.util.regex.Matcher;
import java.util.regex.Pattern;
import java.util.stream.Collectors;

/**
 * The document once more, in other words: ranges are found by asking a predicate at each version where it may change,
 * texts are split instead of read, and an expression is worked out from its outermost operation. Whether a text has a
 * fault is taken from the program itself; GrammarTests looks at that.
 */
final class Model {
    private static final int LAST = 99999999;
    private static final Pattern PART = Pattern.compile("([<>=^~]*)(\\d+)\\.(\\d+)\\.(\\d+)(?:-(\\d+))?");

    private static final class Failure extends Exception {
        private static final long serialVersionUID = 1L;
        final int reason;

        Failure(int reason) {
            this.reason = reason;
        }
    }

    private static final class Content {
        final List<List<int[]>> slots = new ArrayList<>();
        final TreeSet<Integer> published = new TreeSet<>();

        Content twin() {
            Content twin = new Content();
            twin.slots.addAll(slots);
            twin.published.addAll(published);
            return twin;
        }
    }

    private Content now = new Content();
    private Content saved = null;
    private final Deque<Content> before = new ArrayDeque<>();
    private final StringBuilder buffer = new StringBuilder();
    private int reason = 0;
    private List<Integer> chain = null;

    Model() {
        for (int slot = 0; slot < 12; slot++) {
            now.slots.add(null);
        }
    }

    private static void slot(int slot) {
        if (slot < 0 || slot > 11) {
            throw new IndexOutOfBoundsException();
        }
    }

    private static void version(int version) {
        if (version < 0 || version > LAST) {
            throw new IllegalArgumentException();
        }
    }

    private List<int[]> range(int slot) {
        slot(slot);
        if (now.slots.get(slot) == null) {
            throw new NoSuchElementException();
        }
        return now.slots.get(slot);
    }

    private void change() {
        before.addLast(now.twin());
        if (before.size() > 8) {
            before.removeFirst();
        }
    }

    private void refuse(int newReason) {
        reason = newReason;
        throw new UnsupportedOperationException();
    }

    private static boolean in(List<int[]> range, int version) {
        return range.stream().anyMatch(span -> span[0] <= version && version <= span[1]);
    }

    private static List<int[]> found(IntPredicate belongs, TreeSet<Integer> mayChange) {
        List<int[]> spans = new ArrayList<>();
        boolean wasIn = false;
        for (int at : mayChange) {
            boolean isIn = at <= LAST && belongs.test(at);
            if (isIn && !wasIn) {
                spans.add(new int[] {at, LAST});
            } else if (!isIn && wasIn) {
                spans.get(spans.size() - 1)[1] = at - 1;
            }
            wasIn = isIn;
        }
        return spans;
    }

    private static TreeSet<Integer> points(int... points) {
        TreeSet<Integer> all = new TreeSet<>(List.of(0, LAST + 1));
        Arrays.stream(points).filter(point -> point >= 0 && point <= LAST).forEach(all::add);
        return all;
    }

    private static TreeSet<Integer> points(List<int[]> one, List<int[]> other) {
        TreeSet<Integer> all = points();
        for (int[] span : one) {
            all.addAll(points(span[0], span[1] + 1));
        }
        for (int[] span : other) {
            all.addAll(points(span[0], span[1] + 1));
        }
        return all;
    }

    void append(char c) {
        if (buffer.length() == 60) {
            throw new IllegalStateException();
        }
        buffer.append(c);
    }

    private String takeText() {
        String text = buffer.toString();
        buffer.setLength(0);
        return text;
    }

    int read(int slot, boolean hasFault) {
        slot(slot);
        String text = takeText();
        if (hasFault) {
            throw new IllegalArgumentException();
        }
        if (Arrays.stream(text.split("[ |]")).anyMatch(part -> part.endsWith("-99"))) {
            refuse(2);
        }
        TreeSet<Integer> mayChange = points();
        for (String part : text.split("[ |]")) {
            int[] ends = partEnds(part);
            mayChange.addAll(points(ends[0], ends[1] + 1));
        }
        List<int[]> range = found(at -> Arrays.stream(text.split("\\|")).anyMatch(row -> Arrays.stream(row.split(" "))
                .allMatch(part -> partEnds(part)[0] <= at && at <= partEnds(part)[1])), mayChange);
        if (range.size() > 16) {
            refuse(3);
        }
        change();
        now.slots.set(slot, range);
        return range.size();
    }

    private static int[] partEnds(String part) {
        if (part.equals("*")) {
            return new int[] {0, LAST};
        }
        if (part.endsWith(".x")) {
            String[] numbers = part.split("\\.");
            int major = Integer.parseInt(numbers[0]);
            if (numbers.length == 2) {
                return new int[] {code(major, 0, 0, 0), code(major, 99, 99, 99)};
            }
            int minor = Integer.parseInt(numbers[1]);
            return new int[] {code(major, minor, 0, 0), code(major, minor, 99, 99)};
        }
        Matcher matcher = PART.matcher(part);
        if (!matcher.matches()) {
            throw new AssertionError(part);
        }
        int version = code(Integer.parseInt(matcher.group(2)), Integer.parseInt(matcher.group(3)),
                Integer.parseInt(matcher.group(4)), matcher.group(5) == null ? 99 : Integer.parseInt(matcher.group(5)));
        switch (matcher.group(1)) {
            case "<":
                return new int[] {0, version - 1};
            case "<=":
                return new int[] {0, version};
            case ">":
                return new int[] {version + 1, LAST};
            case ">=":
                return new int[] {version, LAST};
            case "^":
                return new int[] {version, greatest(version, true)};
            case "~":
                return new int[] {version, greatest(version, false)};
            default:
                return new int[] {version, version};
        }
    }

    private static int code(int major, int minor, int patch, int prerelease) {
        return ((major * 100 + minor) * 100 + patch) * 100 + prerelease;
    }

    private static int greatest(int version, boolean isCaret) {
        int[] numbers = {version / 1000000, version / 10000 % 100, version / 100 % 100};
        int counting = 1;
        if (isCaret) {
            counting = 0;
            while (counting < 2 && numbers[counting] == 0) {
                counting++;
            }
        }
        Arrays.fill(numbers, counting + 1, 3, 0);
        while (counting >= 0 && numbers[counting] == 99) {
            numbers[counting] = 0;
            counting--;
        }
        if (counting < 0) {
            return LAST;
        }
        numbers[counting]++;
        return code(numbers[0], numbers[1], numbers[2], 0) - 1;
    }

    int evaluate(int slot, boolean hasFault) {
        slot(slot);
        String text = takeText();
        if (hasFault) {
            throw new IllegalArgumentException();
        }
        List<Integer> goingOn = new ArrayList<>();
        List<int[]> range;
        try {
            range = worth(text, 0, text.length(), goingOn);
        } catch (Failure failure) {
            chain = goingOn;
            reason = failure.reason;
            throw new UnsupportedOperationException();
        }
        change();
        now.slots.set(slot, range);
        return range.size();
    }

    /** Leaves the chain in goingOn if it throws. */
    private List<int[]> worth(String text, int start, int end, List<Integer> goingOn) throws Failure {
        int sign = lastOutside(text, start, end, "+");
        if (sign < 0) {
            sign = lastOutside(text, start, end, "&-");
        }
        if (sign < 0 && text.charAt(start) == '!') {
            sign = start;
        }
        if (sign >= 0) {
            goingOn.add(sign);
            List<int[]> one = sign == start ? List.of() : worth(text, start, sign, goingOn);
            List<int[]> other = worth(text, sign + 1, end, goingOn);
            List<int[]> range = operated(text.charAt(sign), one, other);
            if (range.size() > 16) {
                throw new Failure(3);
            }
            goingOn.remove(goingOn.size() - 1);
            return range;
        }
        if (text.charAt(start) == '(') {
            return worth(text, start + 1, end - 1, goingOn);
        }
        int slot = Integer.parseInt(text.substring(start, end));
        if (slot > 11 || now.slots.get(slot) == null) {
            goingOn.add(start);
            throw new Failure(1);
        }
        return now.slots.get(slot);
    }

    private static int lastOutside(String text, int start, int end, String signs) {
        int depth = 0;
        for (int at = end - 1; at >= start; at--) {
            char sign = text.charAt(at);
            depth += sign == ')' ? 1 : sign == '(' ? -1 : 0;
            if (depth == 0 && signs.indexOf(sign) >= 0) {
                return at;
            }
        }
        return -1;
    }

    private static List<int[]> operated(char sign, List<int[]> one, List<int[]> other) {
        return found(at -> isDue(sign, in(one, at), in(other, at)), points(one, other));
    }

    private static boolean isDue(char sign, boolean one, boolean other) {
        return sign == '+' ? one | other : sign == '&' ? one & other : sign == '-' ? one & !other : !other;
    }

    int put(int slot, int first, int last) {
        slot(slot);
        version(first);
        version(last);
        if (last < first) {
            throw new IllegalArgumentException();
        }
        change();
        now.slots.set(slot, List.of(new int[] {first, last}));
        return last - first + 1;
    }

    boolean clear(int slot) {
        slot(slot);
        change();
        return now.slots.set(slot, null) != null;
    }

    int copy(int from, int to) {
        slot(from);
        slot(to);
        change();
        now.slots.set(to, now.slots.get(from));
        return account(0);
    }

    int spans(int slot) {
        return range(slot).size();
    }

    int end(int slot, int span, boolean isLast) {
        List<int[]> range = range(slot);
        if (span < 0 || span >= range.size()) {
            throw new NoSuchElementException();
        }
        return range.get(span)[isLast ? 1 : 0];
    }

    int size(int slot) {
        return range(slot).stream().mapToInt(span -> span[1] - span[0] + 1).sum();
    }

    private static boolean belongs(List<int[]> range, int version, boolean isStrict) {
        for (int[] span : range) {
            if (span[0] <= version && version <= span[1]) {
                return !isStrict || version % 100 == 99 || Arrays.stream(span).anyMatch(end -> end % 100 != 99
                        && end - end % 100 == version - version % 100);
            }
        }
        return false;
    }

    boolean contains(int slot, int version, boolean isStrict) {
        slot(slot);
        version(version);
        return belongs(range(slot), version, isStrict);
    }

    int from(int slot, int version) {
        slot(slot);
        version(version);
        return range(slot).stream().filter(span -> span[1] >= version).mapToInt(span -> Math.max(span[0], version)).min()
                .orElseThrow();
    }

    int relation(int slot, int other) {
        slot(slot);
        slot(other);
        List<int[]> one = range(slot);
        List<int[]> two = range(other);
        int sum = 7;
        for (int at : points(one, two)) {
            boolean isInOne = in(one, at);
            boolean isInTwo = in(two, at);
            sum &= isInOne && isInTwo ? 6 : isInOne ? 5 : isInTwo ? 3 : 7;
        }
        return sum;
    }

    boolean agrees(int slot, int one, int other, int operation) {
        slot(slot);
        slot(one);
        slot(other);
        if (operation < 0 || operation > 2) {
            throw new IllegalArgumentException();
        }
        TreeSet<Integer> looked = new TreeSet<>(now.published);
        for (List<int[]> range : List.of(range(slot), range(one), range(other))) {
            for (int[] span : range) {
                looked.addAll(List.of(span[0] - 1, span[0], span[0] + 1, span[1] - 1, span[1], span[1] + 1));
            }
        }
        return looked.stream().filter(at -> at >= 0 && at <= LAST).allMatch(at -> in(range(slot), at)
                == isDue("+&-".charAt(operation), in(range(one), at), in(range(other), at)));
    }

    int limit(int version, boolean isCaret) {
        version(version);
        return greatest(version, isCaret);
    }

    private static String written(int version) {
        String numbers = version / 1000000 + "." + version / 10000 % 100 + "." + version / 100 % 100;
        return version % 100 == 99 ? numbers : numbers + "-" + version % 100;
    }

    private static String written(int[] span) {
        if (span[0] == span[1]) {
            return "=" + written(span[0]);
        }
        String first = span[0] == 0 ? "" : ">=" + written(span[0]);
        String last = span[1] == LAST ? "" : "<=" + written(span[1]);
        return first.isEmpty() || last.isEmpty() ? first + last : first + " " + last;
    }

    String text(int slot) {
        if (size(slot) == 0) {
            return "none";
        }
        return size(slot) == LAST + 1 ? "*" : range(slot).stream().map(Model::written).collect(Collectors.joining("|"));
    }

    int textLength(int slot) {
        return text(slot).length();
    }

    char text(int slot, int index) {
        String text = text(slot);
        if (index < 0 || index >= text.length()) {
            throw new NoSuchElementException();
        }
        return text.charAt(index);
    }

    int refusal() {
        if (reason == 0) {
            throw new NoSuchElementException();
        }
        return reason;
    }

    int cause(int index) {
        if (chain == null) {
            throw new IllegalStateException();
        }
        if (index < -1 || index >= chain.size()) {
            throw new NoSuchElementException();
        }
        return index == -1 ? chain.size() : chain.get(index);
    }

    int publish(int version) {
        version(version);
        if (now.published.size() == 30) {
            refuse(4);
        }
        if (now.published.contains(version)) {
            refuse(5);
        }
        change();
        now.published.add(version);
        return now.published.size();
    }

    int withdraw(int version) {
        version(version);
        if (!now.published.contains(version)) {
            refuse(5);
        }
        change();
        now.published.remove(version);
        return now.published.size();
    }

    int published(int index) {
        if (index < 0 || index >= now.published.size()) {
            throw new NoSuchElementException();
        }
        return new ArrayList<>(now.published).get(index);
    }

    private List<Integer> publishedIn(int slot, boolean isStrict) {
        List<int[]> range = range(slot);
        return now.published.stream().filter(at -> belongs(range, at, isStrict)).collect(Collectors.toList());
    }

    int best(int slot, boolean isStrict) {
        return publishedIn(slot, isStrict).stream().mapToInt(at -> at).max().orElseThrow();
    }

    int matching(int slot, boolean isStrict) {
        return publishedIn(slot, isStrict).size();
    }

    double share(int slot) {
        double belonging = publishedIn(slot, false).size();
        if (now.published.isEmpty()) {
            throw new ArithmeticException();
        }
        return belonging / now.published.size();
    }

    int account(int what) {
        List<List<int[]>> ranges = now.slots.stream().filter(range -> range != null).collect(Collectors.toList());
        switch (what) {
            case 0:
                return ranges.size();
            case 1:
                return ranges.stream().mapToInt(List::size).sum();
            case 2:
                return ranges.stream().mapToInt(List::size).max().orElse(0);
            case 3:
                return now.published.size();
            case 4:
                return (int) now.published.stream().filter(at -> at % 100 != 99).count();
            case 5:
                return (int) now.published.stream().filter(at -> ranges.stream().noneMatch(range -> in(range, at))).count();
            case 6:
                return (int) ranges.stream().filter(List::isEmpty).count();
            case 7:
                return buffer.length();
            default:
                throw new IllegalArgumentException();
        }
    }

    int undo() {
        if (before.isEmpty()) {
            throw new IllegalStateException();
        }
        now = before.removeLast();
        return before.size();
    }

    void save() {
        saved = now.twin();
    }

    void restore() {
        if (saved == null) {
            throw new IllegalStateException();
        }
        now = saved.twin();
        before.clear();
    }
}
