import java.util.Arrays;
import java.util.NoSuchElementException;

/**
 * An algebra of version ranges. A version is the number 1000000 times its major, plus 10000 times its minor, plus 100
 * times its patch number, plus its prerelease number, or plus 99 without one, so that numbers and versions have the
 * same order.
 */
public final class VersionAlgebra {
    private static final int LAST_VERSION = 99999999;
    private static final int MAJOR_UNIT = 1000000;
    private static final int MINOR_UNIT = 10000;
    private static final int PATCH_UNIT = 100;
    private static final int NO_PRERELEASE = 99;
    /** How many a major, a minor or a patch number can be. */
    private static final int NUMBERS = 100;

    private static final int SLOT_COUNT = 12;
    private static final int MOST_SPANS = 16;
    private static final int MOST_SIGNS = 60;
    private static final int MOST_OPEN = 8;
    private static final int MOST_PUBLISHED = 30;
    private static final int MOST_CHANGES = 8;

    private static final int FAILED_AT_SLOT = 1;
    private static final int PRERELEASE_99 = 2;
    private static final int TOO_MANY_SPANS = 3;
    private static final int ALL_PLACES_TAKEN = 4;
    private static final int PUBLISHED_OR_NOT = 5;

    private static final int JOINED = 0;
    private static final int COMMON = 1;
    private static final int WITHOUT = 2;
    private static final int OPPOSITE = 3;
    private static final int SLOT = 4;

    /** Stands for a number, a version, a sign or a node that is not there. */
    private static final int NONE = -1;

    private final char[] signs = new char[MOST_SIGNS];
    private int signCount = 0;
    private int fault = NONE;
    private int reason = NONE;
    private int[] chain = null;

    private final State now = new State();
    private final State snapshot = new State();
    private boolean hasSnapshot = false;
    private final History history = new History();

    private final StringBuilder canonical = new StringBuilder();

    public VersionAlgebra() {
    }

    // Ranges

    public void append(char c) throws IllegalStateException {
        if (signCount >= MOST_SIGNS) {
            throw new IllegalStateException("the text buffer is full");
        }
        signs[signCount] = c;
        signCount++;
    }

    public int read(int slot) throws IndexOutOfBoundsException, IllegalArgumentException,
            UnsupportedOperationException {
        checkSlot(slot);
        RangeReader reader = new RangeReader(signs, signCount);
        finishReading(reader, reader.readRows());
        if (reader.hasPrerelease99()) {
            refuse(PRERELEASE_99);
        }
        Range range = reader.range();
        if (range.isTooLong()) {
            refuse(TOO_MANY_SPANS);
        }
        change(slot, range);
        return range.spanCount();
    }

    public int evaluate(int slot) throws IndexOutOfBoundsException, IllegalArgumentException,
            UnsupportedOperationException {
        checkSlot(slot);
        Expression expression = new Expression(signs, signCount);
        finishReading(expression, expression.readWhole());
        Range range = expression.workOut(now);
        if (range == null) {
            chain = expression.failureChain();
            refuse(expression.failureReason());
            return NONE;
        }
        change(slot, range);
        return range.spanCount();
    }

    public int faultPosition() {
        return fault;
    }

    public int put(int slot, int first, int last) throws IndexOutOfBoundsException, IllegalArgumentException {
        checkSlot(slot);
        checkVersion(first);
        checkVersion(last);
        if (last < first) {
            throw new IllegalArgumentException("the last version is less than the first one");
        }
        change(slot, Range.ofSpan(first, last));
        return last - first + 1;
    }

    public boolean clear(int slot) throws IndexOutOfBoundsException {
        checkSlot(slot);
        boolean hadRange = now.rangeIn(slot) != null;
        change(slot, null);
        return hadRange;
    }

    public int copy(int from, int to) throws IndexOutOfBoundsException {
        checkSlot(from);
        checkSlot(to);
        change(to, now.rangeIn(from));
        return now.rangeCount();
    }

    public int spans(int slot) throws IndexOutOfBoundsException, NoSuchElementException {
        return rangeOf(slot).spanCount();
    }

    public int end(int slot, int span, boolean isLast) throws IndexOutOfBoundsException, NoSuchElementException {
        Range range = rangeOf(slot);
        if (span < 0 || span >= range.spanCount()) {
            throw new NoSuchElementException("there is no such span");
        }
        return isLast ? range.lastOf(span) : range.firstOf(span);
    }

    public int size(int slot) throws IndexOutOfBoundsException, NoSuchElementException {
        return rangeOf(slot).versionCount();
    }

    // Questions

    public boolean contains(int slot, int version, boolean isStrict) throws IndexOutOfBoundsException,
            IllegalArgumentException, NoSuchElementException {
        checkSlot(slot);
        checkVersion(version);
        return rangeOf(slot).holdsFor(isStrict, version);
    }

    public int from(int slot, int version) throws IndexOutOfBoundsException, IllegalArgumentException,
            NoSuchElementException {
        checkSlot(slot);
        checkVersion(version);
        int least = rangeOf(slot).leastFrom(version);
        if (least == NONE) {
            throw new NoSuchElementException("the range has no version from there on");
        }
        return least;
    }

    public int relation(int slot, int other) throws IndexOutOfBoundsException, NoSuchElementException {
        checkSlot(slot);
        checkSlot(other);
        Range one = rangeOf(slot);
        Range two = rangeOf(other);
        int sum = Range.combined(COMMON, one, two).isEmpty() ? 1 : 0;
        sum += Range.combined(WITHOUT, one, two).isEmpty() ? 2 : 0;
        sum += Range.combined(WITHOUT, two, one).isEmpty() ? 4 : 0;
        return sum;
    }

    public boolean agrees(int slot, int one, int other, int operation) throws IndexOutOfBoundsException,
            IllegalArgumentException, NoSuchElementException {
        checkSlot(slot);
        checkSlot(one);
        checkSlot(other);
        if (operation != JOINED && operation != COMMON && operation != WITHOUT) {
            throw new IllegalArgumentException("there is no such operation");
        }
        Range result = rangeOf(slot);
        Range left = rangeOf(one);
        Range right = rangeOf(other);
        Claim claim = new Claim(result, left, right, operation);
        return claim.isTrueRoundEndsOf(result) && claim.isTrueRoundEndsOf(left) && claim.isTrueRoundEndsOf(right)
                && claim.isTrueForPublished(now);
    }

    public int limit(int version, boolean isCaret) throws IllegalArgumentException {
        checkVersion(version);
        return isCaret ? lastOfCaret(version) : lastOfTilde(version);
    }

    // Texts and reasons

    public int textLength(int slot) throws IndexOutOfBoundsException, NoSuchElementException {
        writeCanonical(rangeOf(slot));
        return canonical.length();
    }

    public char text(int slot, int index) throws IndexOutOfBoundsException, NoSuchElementException {
        writeCanonical(rangeOf(slot));
        if (index < 0 || index >= canonical.length()) {
            throw new NoSuchElementException("there is no such index");
        }
        return canonical.charAt(index);
    }

    public int refusal() throws NoSuchElementException {
        if (reason == NONE) {
            throw new NoSuchElementException("no call was refused");
        }
        return reason;
    }

    public int cause(int index) throws IllegalStateException, NoSuchElementException {
        if (chain == null) {
            throw new IllegalStateException("no expression has failed");
        }
        if (index == -1) {
            return chain.length;
        }
        if (index < 0 || index >= chain.length) {
            throw new NoSuchElementException("there is no such position");
        }
        return chain[index];
    }

    // Published versions

    public int publish(int version) throws IllegalArgumentException, UnsupportedOperationException {
        checkVersion(version);
        if (now.publishedCount() >= MOST_PUBLISHED) {
            refuse(ALL_PLACES_TAKEN);
        }
        if (now.isPublished(version)) {
            refuse(PUBLISHED_OR_NOT);
        }
        history.keep(now);
        now.addPublished(version);
        return now.publishedCount();
    }

    public int withdraw(int version) throws IllegalArgumentException, UnsupportedOperationException {
        checkVersion(version);
        if (!now.isPublished(version)) {
            refuse(PUBLISHED_OR_NOT);
        }
        history.keep(now);
        now.removePublished(version);
        return now.publishedCount();
    }

    public int published(int index) throws NoSuchElementException {
        if (index < 0 || index >= now.publishedCount()) {
            throw new NoSuchElementException("there is no such place");
        }
        return now.publishedAt(index);
    }

    public int best(int slot, boolean isStrict) throws IndexOutOfBoundsException, NoSuchElementException {
        int greatest = now.greatestPublishedIn(rangeOf(slot), isStrict);
        if (greatest == NONE) {
            throw new NoSuchElementException("no published version belongs to the range");
        }
        return greatest;
    }

    public int matching(int slot, boolean isStrict) throws IndexOutOfBoundsException, NoSuchElementException {
        return now.countPublishedIn(rangeOf(slot), isStrict);
    }

    public double share(int slot) throws IndexOutOfBoundsException, NoSuchElementException, ArithmeticException {
        Range range = rangeOf(slot);
        int all = now.publishedCount();
        if (all == 0) {
            throw new ArithmeticException("no version is published");
        }
        return (double) now.countPublishedIn(range, false) / (double) all;
    }

    // Accounts, undo and snapshot

    public int account(int what) throws IllegalArgumentException {
        switch (what) {
            case 0:
                return now.rangeCount();
            case 1:
                return now.spanSum();
            case 2:
                return now.mostSpans();
            case 3:
                return now.publishedCount();
            case 4:
                return now.publishedPrereleaseCount();
            case 5:
                return now.publishedInNoRangeCount();
            case 6:
                return now.emptyRangeCount();
            case 7:
                return signCount;
            default:
                throw new IllegalArgumentException("there is no such account");
        }
    }

    public int undo() throws IllegalStateException {
        if (history.count() == 0) {
            throw new IllegalStateException("no change is kept");
        }
        history.takeBack(now);
        return history.count();
    }

    public void save() {
        snapshot.becomeLike(now);
        hasSnapshot = true;
    }

    public void restore() throws IllegalStateException {
        if (!hasSnapshot) {
            throw new IllegalStateException("there is no snapshot");
        }
        now.becomeLike(snapshot);
        history.forget();
    }

    // What several calls need

    private static void checkSlot(int slot) {
        if (slot < 0 || slot >= SLOT_COUNT) {
            throw new IndexOutOfBoundsException("there is no such slot");
        }
    }

    private static void checkVersion(int version) {
        if (version < 0 || version > LAST_VERSION) {
            throw new IllegalArgumentException("the number is no version");
        }
    }

    private Range rangeOf(int slot) {
        checkSlot(slot);
        Range range = now.rangeIn(slot);
        if (range == null) {
            throw new NoSuchElementException("the slot is empty");
        }
        return range;
    }

    private void refuse(int newReason) {
        reason = newReason;
        throw new UnsupportedOperationException("the call is refused");
    }

    private void finishReading(TextReader reader, boolean isWhole) {
        signCount = 0;
        fault = isWhole ? NONE : reader.position();
        if (!isWhole) {
            throw new IllegalArgumentException("the text has a fault");
        }
    }

    private void change(int slot, Range range) {
        history.keep(now);
        now.setRange(slot, range);
    }

    private static boolean isPrerelease(int version) {
        return version % PATCH_UNIT != NO_PRERELEASE;
    }

    /** Directly ahead of the prerelease 0 that is the limit; a number that is 99 carries over of itself. */
    private static int lastOfCaret(int version) {
        if (version >= MAJOR_UNIT) {
            return (version / MAJOR_UNIT + 1) * MAJOR_UNIT - 1;
        }
        if (version >= MINOR_UNIT) {
            return (version / MINOR_UNIT + 1) * MINOR_UNIT - 1;
        }
        return (version / PATCH_UNIT + 1) * PATCH_UNIT - 1;
    }

    private static int lastOfTilde(int version) {
        return (version / MINOR_UNIT + 1) * MINOR_UNIT - 1;
    }

    private static boolean meets(int operation, boolean isInOne, boolean isInOther) {
        switch (operation) {
            case JOINED:
                return isInOne || isInOther;
            case COMMON:
                return isInOne && isInOther;
            default:
                return isInOne && !isInOther;
        }
    }

    private void writeCanonical(Range range) {
        canonical.setLength(0);
        if (range.isEmpty()) {
            canonical.append("none");
            return;
        }
        if (range.isWhole()) {
            canonical.append('*');
            return;
        }
        for (int span = 0; span < range.spanCount(); span++) {
            if (span > 0) {
                canonical.append('|');
            }
            writeSpan(range.firstOf(span), range.lastOf(span));
        }
    }

    private void writeSpan(int first, int last) {
        if (first == last) {
            canonical.append('=');
            writeVersion(first);
            return;
        }
        if (first > 0) {
            canonical.append(">=");
            writeVersion(first);
        }
        if (first > 0 && last < LAST_VERSION) {
            canonical.append(' ');
        }
        if (last < LAST_VERSION) {
            canonical.append("<=");
            writeVersion(last);
        }
    }

    private void writeVersion(int version) {
        canonical.append(version / MAJOR_UNIT);
        canonical.append('.');
        canonical.append(version / MINOR_UNIT % NUMBERS);
        canonical.append('.');
        canonical.append(version / PATCH_UNIT % NUMBERS);
        if (isPrerelease(version)) {
            canonical.append('-');
            canonical.append(version % PATCH_UNIT);
        }
    }

    /** A set of versions. It never changes, so that slots, snapshots and kept changes can share one. */
    private static final class Range {
        /** The first and the last version of each span in turn. */
        private final int[] ends;

        private Range(int[] ends) {
            this.ends = ends;
        }

        static Range ofSpan(int first, int last) {
            if (first > last) {
                return new Range(new int[0]);
            }
            return new Range(new int[] {first, last});
        }

        /** Goes from one version at which the membership may change to the next one. */
        static Range combined(int operation, Range one, Range other) {
            int[] found = new int[2 * (one.spanCount() + other.spanCount() + 1)];
            int length = 0;
            int at = 0;
            for (int step = 0; step < found.length && at <= LAST_VERSION; step++) {
                int next = Math.min(one.nextChange(at), other.nextChange(at));
                if (meets(operation, one.holds(at), other.holds(at))) {
                    if (length > 0 && found[length - 1] == at - 1) {
                        found[length - 1] = next - 1;
                    } else if (length + 2 <= found.length) {
                        found[length] = at;
                        found[length + 1] = next - 1;
                        length += 2;
                    }
                }
                at = next;
            }
            return new Range(Arrays.copyOf(found, length));
        }

        int spanCount() {
            return ends.length / 2;
        }

        int firstOf(int span) {
            return span >= 0 && span < spanCount() ? ends[2 * span] : NONE;
        }

        int lastOf(int span) {
            return span >= 0 && span < spanCount() ? ends[2 * span + 1] : NONE;
        }

        boolean isEmpty() {
            return ends.length == 0;
        }

        boolean isWhole() {
            return spanCount() == 1 && firstOf(0) == 0 && lastOf(0) == LAST_VERSION;
        }

        boolean isTooLong() {
            return spanCount() > MOST_SPANS;
        }

        int versionCount() {
            int sum = 0;
            for (int span = 0; span < spanCount(); span++) {
                sum += lastOf(span) - firstOf(span) + 1;
            }
            return sum;
        }

        /** The first span that is not wholly ahead of the version, or the number of spans. */
        private int spanFrom(int version) {
            int span = 0;
            while (2 * span + 1 < ends.length && ends[2 * span + 1] < version) {
                span++;
            }
            return span;
        }

        boolean holds(int version) {
            int span = spanFrom(version);
            return span < spanCount() && firstOf(span) <= version;
        }

        boolean holdsFor(boolean isStrict, int version) {
            if (!holds(version)) {
                return false;
            }
            if (!isStrict || !isPrerelease(version)) {
                return true;
            }
            int span = spanFrom(version);
            return isPrereleaseBeside(firstOf(span), version) || isPrereleaseBeside(lastOf(span), version);
        }

        private static boolean isPrereleaseBeside(int end, int version) {
            return isPrerelease(end) && end / PATCH_UNIT == version / PATCH_UNIT;
        }

        int leastFrom(int version) {
            int span = spanFrom(version);
            return span < spanCount() ? Math.max(version, firstOf(span)) : NONE;
        }

        /** The next version of which the membership differs, or the number behind the last version. */
        private int nextChange(int version) {
            int span = spanFrom(version);
            if (span == spanCount()) {
                return LAST_VERSION + 1;
            }
            return firstOf(span) > version ? firstOf(span) : lastOf(span) + 1;
        }
    }

    /** That a range is what an operation of two others gives; it is tried version by version. */
    private static final class Claim {
        private final Range result;
        private final Range one;
        private final Range other;
        private final int operation;

        Claim(Range result, Range one, Range other, int operation) {
            this.result = result;
            this.one = one;
            this.other = other;
            this.operation = operation;
        }

        boolean isTrueForPublished(State state) {
            for (int place = 0; place < state.publishedCount(); place++) {
                if (!isTrueFor(state.publishedAt(place))) {
                    return false;
                }
            }
            return true;
        }

        boolean isTrueRoundEndsOf(Range range) {
            for (int span = 0; span < range.spanCount(); span++) {
                if (!isTrueRound(range.firstOf(span)) || !isTrueRound(range.lastOf(span))) {
                    return false;
                }
            }
            return true;
        }

        private boolean isTrueRound(int end) {
            return isTrueFor(end - 1) && isTrueFor(end) && isTrueFor(end + 1);
        }

        /** A number beyond the versions belongs to nothing and so contradicts no claim. */
        private boolean isTrueFor(int version) {
            return result.holds(version) == meets(operation, one.holds(version), other.holds(version));
        }
    }

    /** The ranges of the slots and the published versions: all that undo and restore bring back. */
    private static final class State {
        private final Range[] ranges = new Range[SLOT_COUNT];
        private final int[] versions = new int[MOST_PUBLISHED];
        private int versionCount = 0;

        void becomeLike(State other) {
            for (int slot = 0; slot < SLOT_COUNT; slot++) {
                ranges[slot] = other.ranges[slot];
            }
            System.arraycopy(other.versions, 0, versions, 0, MOST_PUBLISHED);
            versionCount = other.versionCount;
        }

        Range rangeIn(int slot) {
            return slot >= 0 && slot < SLOT_COUNT ? ranges[slot] : null;
        }

        void setRange(int slot, Range range) {
            if (slot >= 0 && slot < SLOT_COUNT) {
                ranges[slot] = range;
            }
        }

        int rangeCount() {
            int count = 0;
            for (Range range : ranges) {
                count += range != null ? 1 : 0;
            }
            return count;
        }

        int spanSum() {
            int sum = 0;
            for (Range range : ranges) {
                sum += range != null ? range.spanCount() : 0;
            }
            return sum;
        }

        int mostSpans() {
            int most = 0;
            for (Range range : ranges) {
                most = range != null ? Math.max(most, range.spanCount()) : most;
            }
            return most;
        }

        int emptyRangeCount() {
            int count = 0;
            for (Range range : ranges) {
                count += range != null && range.isEmpty() ? 1 : 0;
            }
            return count;
        }

        int publishedCount() {
            return versionCount;
        }

        int publishedAt(int place) {
            return place >= 0 && place < versionCount && place < MOST_PUBLISHED ? versions[place] : NONE;
        }

        /** The place of the first published version that is at least the version. */
        private int placeFor(int version) {
            int place = 0;
            while (place < versionCount && publishedAt(place) < version) {
                place++;
            }
            return place;
        }

        boolean isPublished(int version) {
            return publishedAt(placeFor(version)) == version;
        }

        void addPublished(int version) {
            int place = placeFor(version);
            if (versionCount >= MOST_PUBLISHED || place > versionCount) {
                return;
            }
            System.arraycopy(versions, place, versions, place + 1, versionCount - place);
            versions[place] = version;
            versionCount++;
        }

        void removePublished(int version) {
            int place = placeFor(version);
            if (place >= versionCount) {
                return;
            }
            System.arraycopy(versions, place + 1, versions, place, versionCount - place - 1);
            versionCount--;
        }

        int greatestPublishedIn(Range range, boolean isStrict) {
            for (int place = versionCount - 1; place >= 0; place--) {
                if (range.holdsFor(isStrict, publishedAt(place))) {
                    return publishedAt(place);
                }
            }
            return NONE;
        }

        int countPublishedIn(Range range, boolean isStrict) {
            int count = 0;
            for (int place = 0; place < versionCount; place++) {
                count += range.holdsFor(isStrict, publishedAt(place)) ? 1 : 0;
            }
            return count;
        }

        int publishedPrereleaseCount() {
            int count = 0;
            for (int place = 0; place < versionCount; place++) {
                count += isPrerelease(publishedAt(place)) ? 1 : 0;
            }
            return count;
        }

        int publishedInNoRangeCount() {
            int count = 0;
            for (int place = 0; place < versionCount; place++) {
                count += isInSomeRange(publishedAt(place)) ? 0 : 1;
            }
            return count;
        }

        private boolean isInSomeRange(int version) {
            for (Range range : ranges) {
                if (range != null && range.holds(version)) {
                    return true;
                }
            }
            return false;
        }
    }

    /** The states ahead of the latest changes, in a ring whose states are used again. */
    private static final class History {
        private final State[] states = new State[MOST_CHANGES];
        private int next = 0;
        private int kept = 0;

        History() {
            for (int place = 0; place < MOST_CHANGES; place++) {
                states[place] = new State();
            }
        }

        int count() {
            return kept;
        }

        void keep(State state) {
            states[next].becomeLike(state);
            next = Math.floorMod(next + 1, MOST_CHANGES);
            kept = Math.min(kept + 1, MOST_CHANGES);
        }

        void takeBack(State state) {
            if (kept == 0) {
                return;
            }
            next = Math.floorMod(next - 1, MOST_CHANGES);
            kept--;
            state.becomeLike(states[next]);
        }

        void forget() {
            kept = 0;
        }
    }

    /** Goes through a text and stops at its first fault, so that its position is then that of the fault. */
    private abstract static class TextReader {
        private final char[] signs;
        private final int length;
        private int at = 0;

        TextReader(char[] signs, int length) {
            this.signs = signs;
            this.length = Math.max(0, Math.min(length, signs.length));
        }

        final int position() {
            return at;
        }

        final int textSize() {
            return length;
        }

        final boolean isAtEnd() {
            return at == length;
        }

        final boolean isAt(char sign) {
            return at < length && signs[at] == sign;
        }

        final boolean takes(char sign) {
            if (!isAt(sign)) {
                return false;
            }
            at++;
            return true;
        }

        /** Takes one or two digits; a 0 stands alone, and what is behind the number is left to the caller. */
        final int takeNumber() {
            int first = digitAt(at);
            if (first == NONE) {
                return NONE;
            }
            at++;
            int second = digitAt(at);
            if (first == 0 || second == NONE) {
                return first;
            }
            at++;
            return 10 * first + second;
        }

        private int digitAt(int index) {
            boolean isDigit = index >= 0 && index < length && signs[index] >= '0' && signs[index] <= '9';
            return isDigit ? signs[index] - '0' : NONE;
        }
    }

    /** Reads a text of a range. Each part is one row of successive versions, and so is each row of parts. */
    private static final class RangeReader extends TextReader {
        private static final int PLAIN = 0;
        private static final int SAME = 1;
        private static final int LESS = 2;
        private static final int AT_MOST = 3;
        private static final int GREATER = 4;
        private static final int AT_LEAST = 5;
        private static final int CARET = 6;
        private static final int TILDE = 7;

        private Range range = Range.ofSpan(0, NONE);
        private int low = 0;
        private int high = LAST_VERSION;
        private boolean hasPrerelease99 = false;

        RangeReader(char[] signs, int length) {
            super(signs, length);
        }

        Range range() {
            return range;
        }

        boolean hasPrerelease99() {
            return hasPrerelease99;
        }

        boolean readRows() {
            for (int row = 0; row <= textSize(); row++) {
                if (!readRow()) {
                    return false;
                }
                range = Range.combined(JOINED, range, Range.ofSpan(low, high));
                if (!takes('|')) {
                    return isAtEnd();
                }
            }
            return false;
        }

        private boolean readRow() {
            low = 0;
            high = LAST_VERSION;
            for (int part = 0; part <= textSize(); part++) {
                if (!readPart()) {
                    return false;
                }
                if (!takes(' ')) {
                    return true;
                }
            }
            return false;
        }

        private boolean readPart() {
            if (takes('*')) {
                return true;
            }
            int kind = takeKind();
            int major = takeNumber();
            if (major == NONE || !takes('.')) {
                return false;
            }
            int version = major * MAJOR_UNIT;
            if (kind == PLAIN && takes('x')) {
                narrow(version, version + MAJOR_UNIT - 1);
                return true;
            }
            int minor = takeNumber();
            if (minor == NONE || !takes('.')) {
                return false;
            }
            version += minor * MINOR_UNIT;
            if (kind == PLAIN && takes('x')) {
                narrow(version, version + MINOR_UNIT - 1);
                return true;
            }
            return readVersionEnd(kind, version);
        }

        private boolean readVersionEnd(int kind, int start) {
            int patch = takeNumber();
            if (patch == NONE) {
                return false;
            }
            int prerelease = NO_PRERELEASE;
            if (takes('-')) {
                prerelease = takeNumber();
                if (prerelease == NONE) {
                    return false;
                }
                hasPrerelease99 = hasPrerelease99 || prerelease == NO_PRERELEASE;
            }
            narrowBy(kind, start + patch * PATCH_UNIT + prerelease);
            return true;
        }

        private int takeKind() {
            if (takes('<')) {
                return takes('=') ? AT_MOST : LESS;
            }
            if (takes('>')) {
                return takes('=') ? AT_LEAST : GREATER;
            }
            if (takes('=')) {
                return SAME;
            }
            if (takes('^')) {
                return CARET;
            }
            return takes('~') ? TILDE : PLAIN;
        }

        private void narrowBy(int kind, int version) {
            switch (kind) {
                case LESS:
                    narrow(0, version - 1);
                    break;
                case AT_MOST:
                    narrow(0, version);
                    break;
                case GREATER:
                    narrow(version + 1, LAST_VERSION);
                    break;
                case AT_LEAST:
                    narrow(version, LAST_VERSION);
                    break;
                case CARET:
                    narrow(version, lastOfCaret(version));
                    break;
                case TILDE:
                    narrow(version, lastOfTilde(version));
                    break;
                default:
                    narrow(version, version);
                    break;
            }
        }

        private void narrow(int first, int last) {
            low = Math.max(low, first);
            high = Math.min(high, last);
        }
    }

    /**
     * An expression as a row of nodes, slots and operations, each behind its operands. That is also the order in which
     * they are worked out; and the operations that go on while a node is worked out are those above it.
     */
    private static final class Expression extends TextReader {
        private final int[] kinds;
        private final int[] positions;
        private final int[] lefts;
        private final int[] rights;
        private final int[] parents;
        private int count = 0;
        private int failedNode = NONE;

        Expression(char[] signs, int length) {
            super(signs, length);
            int most = textSize();
            kinds = new int[most];
            positions = new int[most];
            lefts = new int[most];
            rights = new int[most];
            parents = new int[most];
        }

        boolean readWhole() {
            return readSum(0) != NONE && isAtEnd();
        }

        private int readSum(int open) {
            int left = readTerm(open);
            for (int sign = 0; sign <= textSize() && left != NONE && isAt('+'); sign++) {
                left = readOperation(JOINED, left, open);
            }
            return left;
        }

        private int readTerm(int open) {
            int left = readFactor(open);
            for (int sign = 0; sign <= textSize() && left != NONE && (isAt('&') || isAt('-')); sign++) {
                left = readOperation(isAt('&') ? COMMON : WITHOUT, left, open);
            }
            return left;
        }

        private int readOperation(int kind, int left, int open) {
            int position = position();
            if (!takes('+') && !takes('&') && !takes('-')) {
                return NONE;
            }
            int right = kind == JOINED ? readTerm(open) : readFactor(open);
            return right == NONE ? NONE : addNode(kind, position, left, right);
        }

        private int readFactor(int open) {
            int position = position();
            if ((isAt('!') || isAt('(')) && open >= MOST_OPEN) {
                return NONE;
            }
            if (takes('!')) {
                int operand = readFactor(open + 1);
                return operand == NONE ? NONE : addNode(OPPOSITE, position, operand, NONE);
            }
            if (takes('(')) {
                int inner = readSum(open + 1);
                return inner != NONE && takes(')') ? inner : NONE;
            }
            int slot = takeNumber();
            return slot == NONE ? NONE : addNode(SLOT, position, slot, NONE);
        }

        private int addNode(int kind, int position, int left, int right) {
            int node = count;
            if (node >= kinds.length) {
                return NONE;
            }
            kinds[node] = kind;
            positions[node] = position;
            lefts[node] = left;
            rights[node] = right;
            parents[node] = NONE;
            if (kind != SLOT) {
                setParent(left, node);
                setParent(right, node);
            }
            count++;
            return node;
        }

        private void setParent(int node, int parent) {
            if (node >= 0 && node < parents.length) {
                parents[node] = parent;
            }
        }

        /** Answers null if the expression fails. */
        Range workOut(State state) {
            Range[] results = new Range[count];
            Range latest = null;
            for (int node = 0; node < count; node++) {
                latest = resultOf(node, results, state);
                if (latest == null || latest.isTooLong()) {
                    failedNode = node;
                    return null;
                }
                results[node] = latest;
            }
            return latest;
        }

        private Range resultOf(int node, Range[] results, State state) {
            if (kinds[node] == SLOT) {
                return state.rangeIn(lefts[node]);
            }
            Range left = resultAt(lefts[node], results);
            if (kinds[node] == OPPOSITE) {
                return left == null ? null : Range.combined(WITHOUT, Range.ofSpan(0, LAST_VERSION), left);
            }
            Range right = resultAt(rights[node], results);
            return left == null || right == null ? null : Range.combined(kinds[node], left, right);
        }

        private static Range resultAt(int node, Range[] results) {
            return node >= 0 && node < results.length ? results[node] : null;
        }

        int failureReason() {
            return isFailedAtSlot() ? FAILED_AT_SLOT : TOO_MANY_SPANS;
        }

        private boolean isFailedAtSlot() {
            return failedNode >= 0 && failedNode < count && kinds[failedNode] == SLOT;
        }

        int[] failureChain() {
            int[] positionsUp = new int[count];
            int length = 0;
            int node = failedNode;
            while (length < count && node >= 0 && node < count) {
                positionsUp[length] = positions[node];
                length++;
                node = parents[node];
            }
            int[] positionsDown = new int[length];
            for (int index = 0; index < length; index++) {
                positionsDown[index] = positionsUp[length - 1 - index];
            }
            return positionsDown;
        }
    }
}
