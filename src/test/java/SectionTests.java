import java.io.IOException;
import java.util.concurrent.Callable;
import java.util.function.IntFunction;

/** Each sentence of the document's sections "Promise 1" to "Promise 30" with a test of its own. */
public final class SectionTests {
    private static final int LAST = Make.LAST;
    private static final int[] NO_SLOTS = {-1, 12, 13, -12, Integer.MIN_VALUE, Integer.MAX_VALUE};
    private static final int[] NO_VERSIONS = {-1, LAST + 1, Integer.MIN_VALUE, Integer.MAX_VALUE};
    private static final String NO_SLOT = "Throws `IndexOutOfBoundsException` if there is no such slot";
    private static final String ONE_NO_SLOT = "Throws `IndexOutOfBoundsException` if one of the slots does not exist";
    private static final String NO_VERSION = "Throws `IllegalArgumentException` if the number is no version";
    private static final String EMPTY_SLOT = "Throws `NoSuchElementException` if the slot is empty";
    private static final String THE_SLOT = "- `slot`: the slot";
    private static final String IS_STRICT = "- `isStrict`: whether it has to belong strictly";

    private final Sentences doc = new Sentences();

    private SectionTests() throws IOException {
    }

    public static void main(String[] args) throws IOException {
        new SectionTests().go();
    }

    private void go() {
        newObject();
        append();
        read();
        readThrows();
        evaluate();
        evaluateThrows();
        faultPosition();
        put();
        clear();
        copy();
        spans();
        end();
        size();
        contains();
        from();
        relation();
        agrees();
        agreesThrows();
        limit();
        textLength();
        text();
        refusal();
        cause();
        publish();
        withdraw();
        published();
        best();
        matching();
        share();
        account();
        undo();
        save();
        restore();
        doc.finish("Promise \\d+: .*");
    }

    private void due(String what, Object got, Object want) {
        doc.due(what, got, want);
    }

    private void dueThrown(String what, Callable<?> call, String exception) {
        doc.due(what, Check.ask(call), exception);
    }

    /** Asks with each number that is no slot; the object stays as it is. */
    private void dueNoSlot(String sentence, IntFunction<Object> call) {
        doc.says(sentence);
        dueEach(NO_SLOTS, "slot", call, Check.INDEX);
    }

    private void dueNoVersion(IntFunction<Object> call) {
        doc.says(NO_VERSION);
        dueEach(NO_VERSIONS, "version", call, Check.ARGUMENT);
    }

    private void dueEach(int[] numbers, String name, IntFunction<Object> call, String exception) {
        for (int number : numbers) {
            dueThrown("no " + name + " " + number, () -> call.apply(number), exception);
        }
    }

    private void newObject() {
        doc.section("Promise 1: A new object");
        doc.says("Creates an algebra with empty slots, without published versions.");
        VersionAlgebra x = new VersionAlgebra();
        for (int slot = 0; slot < 12; slot++) {
            due("the slot " + slot, Check.ends(x, slot), Check.NO_ELEMENT);
            due("which has no range", x.clear(slot), false);
        }
        VersionAlgebra y = new VersionAlgebra();
        due("the published ones", Check.published(y) + " " + y.account(3), " 0");
        due("the text buffer", y.account(7), 0);
        dueThrown("no change", () -> y.undo(), Check.STATE);
        due("no snapshot", Check.ask(() -> y.restore()), Check.STATE);
        dueThrown("no reason", () -> y.refusal(), Check.NO_ELEMENT);
        dueThrown("no chain", () -> y.cause(-1), Check.STATE);
        due("no fault", y.faultPosition(), -1);
        x.put(0, 1, 2);
        due("objects of their own", y.account(0), 0);
    }

    private void append() {
        doc.section("Promise 2: append");
        doc.says("Appends a character to the text buffer.");
        VersionAlgebra x = new VersionAlgebra();
        x.append('1');
        due("one", x.account(7), 1);
        x.append('2');
        x.append('.');
        x.append('x');
        due("four", x.account(7), 4);
        due("in their order", x.read(0) + " " + Check.ends(x, 0), "1 12000000..12999999");
        doc.says("- `c`: the character, any one");
        for (int code : new int[] {0, 1, 9, 10, 13, 32, 127, 128, 233, 255, 256, 0xd800, 0xdfff, 0xfffe, 0xffff}) {
            VersionAlgebra y = new VersionAlgebra();
            due("the character " + code, Check.ask(() -> y.append((char) code)) + " " + y.account(7), "nothing 1");
            due("read", Check.ask(() -> y.read(0)) + " " + y.faultPosition(), Check.ARGUMENT + " 0");
        }
        doc.says("Throws `IllegalStateException` if the buffer contains 60 characters");
        VersionAlgebra z = new VersionAlgebra();
        for (int count = 1; count <= 60; count++) {
            due("number " + count, Check.ask(() -> z.append('!')) + " " + z.account(7), "nothing " + count);
        }
        due("number 61", Check.ask(() -> z.append('0')) + " " + z.account(7), Check.STATE + " 60");
        due("once more", Check.ask(() -> z.append('0')) + " " + z.account(7), Check.STATE + " 60");
        Check.ask(() -> z.read(0));
        due("into the emptied buffer", Check.ask(() -> z.append('0')) + " " + z.account(7), "nothing 1");
    }

    private void read() {
        doc.section("Promise 3: read");
        doc.says("Reads the text buffer as a text of a range and puts it into a slot.");
        VersionAlgebra x = Make.with("1.x", "2.x");
        due("in place of a range", Check.read(x, 1, "3.x|5.x") + " " + Check.ends(x, 1), "2 3000000..3999999 5000000..5999999");
        due("the other slot stays", Check.ends(x, 0), "1000000..1999999");
        due("not as an expression", Check.read(x, 1, "0") + " " + x.faultPosition(), Check.ARGUMENT + " 1");
        due("60 characters", Check.read(x, 2, "1.x|3.x|5.x|7.x|9.x|0.1.x|0.3.x|0.5.x|0.7.x|0.9.x|0.0.3-12 *"), 11);
        doc.says("The buffer is emptied, also if an exception is thrown, unless there is no such slot.");
        due("behind a text", x.account(7), 0);
        due("behind a fault", Check.read(x, 0, "1.x?") + " " + x.account(7), Check.ARGUMENT + " 0");
        due("behind a refusal", Check.read(x, 0, "1.0.0-99") + " " + x.account(7), Check.REFUSED + " 0");
        Check.type(x, "7.x");
        due("without the slot", Check.ask(() -> x.read(12)) + " " + x.account(7), Check.INDEX + " 3");
        due("with the slot then", x.read(0) + " " + Check.ends(x, 0) + " " + x.account(7), "1 7000000..7999999 0");
        doc.says(THE_SLOT);
        due("the first one", Check.read(x, 0, "1.x") + " " + x.size(0), "1 1000000");
        due("the last one", Check.read(x, 11, "1.2.x") + " " + x.size(11), "1 10000");
        doc.says("Returns the number of spans.");
        due("none", Check.read(x, 0, "<0.0.0-0"), 0);
        due("one", Check.read(x, 0, "1.x"), 1);
        due("one of two rows", Check.read(x, 0, "1.x|2.x"), 1);
        due("two", Check.read(x, 0, "1.x|3.x"), 2);
        due("13, the most of 60 characters",
                Check.read(x, 0, "0.x|2.x|4.x|6.x|8.x|10.x|12.x|14.x|16.x|18.x|20.x|22.x|24.x") + " " + x.spans(0), "13 13");
    }

    private void readThrows() {
        VersionAlgebra x = Make.with("1.x");
        Check.type(x, "2.x");
        dueNoSlot(NO_SLOT, slot -> x.read(slot));
        due("the buffer stays", x.account(7), 3);
        doc.says("Throws `IllegalArgumentException` if the text has a fault");
        x.read(0);
        dueThrown("the empty text", () -> x.read(0), Check.ARGUMENT);
        due("another one", Check.read(x, 0, "2.x.") + " " + Check.ends(x, 0), Check.ARGUMENT + " 2000000..2999999");
        dueThrown("no refusal", () -> x.refusal(), Check.NO_ELEMENT);
        doc.says("Throws `UnsupportedOperationException` if it is refused for reason 2 or 3; the reason is kept for refusal");
        due("reason 2", Check.read(x, 0, "1.0.0-99") + " " + x.refusal(), Check.REFUSED + " 2");
        due("in the last part", Check.read(x, 0, "*|* * <=1.0.0-99") + " " + x.refusal(), Check.REFUSED + " 2");
        due("in a part that has no say", Check.read(x, 0, "*|1.x 2.x ~1.0.0-99") + " " + x.refusal(), Check.REFUSED + " 2");
        due("with two of them", Check.read(x, 0, "1.0.0-99|1.0.0-99"), Check.REFUSED);
        due("the slot stays", Check.ends(x, 0), "2000000..2999999");
        due("98 is none", Check.read(x, 0, "1.0.0-98"), 1);
        due("the reason stays", x.refusal(), 2);
    }

    private void evaluate() {
        doc.section("Promise 4: evaluate");
        doc.says("Reads the text buffer as an expression and puts its range into a slot.");
        VersionAlgebra x = Make.with("1.x", "1.5.x", "3.x");
        due("in place of a range", Check.evaluate(x, 2, "0-1") + " " + Check.ends(x, 2), "2 1000000..1049999 1060000..1999999");
        due("the others stay", Check.ends(x, 0) + " " + Check.ends(x, 1), "1000000..1999999 1050000..1059999");
        due("not as a text of a range", Check.evaluate(x, 2, "1.x") + " " + x.faultPosition(), Check.ARGUMENT + " 1");
        due("60 characters", Check.evaluate(x, 3, "0+0+0+0+0+0+0+0+0+0+0+0+0+0+0+0+0+0+0+0+0+0+0+0+0+0+0+0+0+!0"), 1);
        doc.says("The buffer is emptied, also if an exception is thrown, unless there is no such slot.");
        due("behind an expression", x.account(7), 0);
        due("behind a fault", Check.evaluate(x, 0, "0+") + " " + x.account(7), Check.ARGUMENT + " 0");
        due("behind a refusal", Check.evaluate(x, 0, "0+9") + " " + x.account(7), Check.REFUSED + " 0");
        Check.type(x, "!0");
        due("without the slot", Check.ask(() -> x.evaluate(12)) + " " + x.account(7), Check.INDEX + " 2");
        due("with the slot then", x.evaluate(4) + " " + Check.ends(x, 4) + " " + x.account(7),
                "2 0..999999 2000000..99999999 0");
        doc.says(THE_SLOT);
        due("the first one", Check.evaluate(x, 0, "1") + " " + x.size(0), "1 10000");
        due("the last one", Check.evaluate(x, 11, "1") + " " + x.size(11), "1 10000");
        doc.says("Returns the number of spans.");
        due("none", Check.evaluate(x, 5, "0-0"), 0);
        due("one", Check.evaluate(x, 5, "0"), 1);
        due("three", Check.evaluate(x, 5, "!2"), 3);
        Make.putSpans(x, 6, 1001, 16);
        due("16", Check.evaluate(x, 5, "6"), 16);
    }

    private void evaluateThrows() {
        VersionAlgebra x = Make.with("1.x");
        Check.type(x, "0");
        dueNoSlot(NO_SLOT, slot -> x.evaluate(slot));
        due("the buffer stays", x.account(7), 1);
        doc.says("Throws `IllegalArgumentException` if the text has a fault");
        x.evaluate(1);
        dueThrown("the empty text", () -> x.evaluate(0), Check.ARGUMENT);
        due("another one", Check.evaluate(x, 0, "!0&") + " " + Check.ends(x, 0), Check.ARGUMENT + " 1000000..1999999");
        dueThrown("no refusal", () -> x.refusal(), Check.NO_ELEMENT);
        dueThrown("no chain", () -> x.cause(-1), Check.STATE);
        doc.says("Throws `UnsupportedOperationException` if it is refused for reason 1 or 3; the reason and the chain are kept");
        due("reason 1", Check.evaluate(x, 0, "0+9") + " " + x.refusal() + " " + Check.chain(x), Check.REFUSED + " 1 1 2");
        due("the slot stays", Check.ends(x, 0), "1000000..1999999");
        due("the slot itself is empty", Check.evaluate(x, 9, "9") + " " + x.refusal() + " " + Check.chain(x),
                Check.REFUSED + " 1 0");
        Make.putSpans(x, 2, 1001, 16);
        due("reason 3", Check.evaluate(x, 0, "0&!2") + " " + x.refusal() + " " + Check.chain(x), Check.REFUSED + " 3 1 2");
        due("the slot stays then", Check.ends(x, 0), "1000000..1999999");
    }

    private void faultPosition() {
        doc.section("Promise 5: faultPosition");
        doc.says("Returns the fault position of the text of the latest call of read or evaluate with a slot.");
        VersionAlgebra x = Make.with("1.x");
        due("of read", Check.read(x, 1, "1.2.?") + " " + x.faultPosition(), Check.ARGUMENT + " 4");
        due("of evaluate", Check.evaluate(x, 1, "0+(?") + " " + x.faultPosition(), Check.ARGUMENT + " 3");
        due("read without a slot", Check.ask(() -> x.read(12)) + " " + x.faultPosition(), Check.INDEX + " 3");
        due("evaluate without a slot", Check.ask(() -> x.evaluate(-1)) + " " + x.faultPosition(), Check.INDEX + " 3");
        due("another call", x.put(1, 1, 2) + " " + x.faultPosition(), "2 3");
        due("the empty text", Check.ask(() -> x.read(1)) + " " + x.faultPosition(), Check.ARGUMENT + " 0");
        doc.says("Returns the fault position, or -1 if the text had no fault or there was no such call.");
        due("no call", new VersionAlgebra().faultPosition(), -1);
        VersionAlgebra y = new VersionAlgebra();
        due("only a call without a slot", Check.ask(() -> y.read(-1)) + " " + y.faultPosition(), Check.INDEX + " -1");
        due("and one of evaluate", Check.ask(() -> y.evaluate(12)) + " " + y.faultPosition(), Check.INDEX + " -1");
        due("a text of a range", Check.read(x, 1, "1.x") + " " + x.faultPosition(), "1 -1");
        Check.read(x, 1, "?");
        due("an expression", Check.evaluate(x, 1, "0") + " " + x.faultPosition(), "1 -1");
        Check.read(x, 1, "?");
        due("a refused text", Check.read(x, 1, "1.0.0-99") + " " + x.faultPosition(), Check.REFUSED + " -1");
        Check.read(x, 1, "?");
        due("a failed expression", Check.evaluate(x, 1, "0&99") + " " + x.faultPosition(), Check.REFUSED + " -1");
        due("the length of a full buffer",
                Check.read(x, 1, "1.x 1.x 1.x 1.x 1.x 1.x 1.x 1.x 1.x 1.x 1.x 1.x 1.x 1.x 1.x ") + " " + x.faultPosition(),
                Check.ARGUMENT + " 60");
    }

    private void put() {
        doc.section("Promise 6: put");
        doc.says("Puts the range of one span into a slot.");
        VersionAlgebra x = Make.with("1.x|3.x", "5.x");
        due("in place of two", x.put(0, 100, 200) + " " + Check.ends(x, 0), "101 100..200");
        due("the other slot stays", Check.ends(x, 1), "5000000..5999999");
        doc.says(THE_SLOT);
        due("the first one", x.put(0, 1, 2) + " " + Check.ends(x, 0), "2 1..2");
        due("the last one", x.put(11, 3, 4) + " " + Check.ends(x, 11), "2 3..4");
        doc.says("- `first`: the first version");
        due("the least one", x.put(0, 0, 5) + " " + Check.ends(x, 0), "6 0..5");
        due("the greatest one", x.put(0, LAST, LAST) + " " + Check.ends(x, 0), "1 99999999..99999999");
        doc.says("- `last`: the last version");
        due("the least one", x.put(0, 0, 0) + " " + Check.ends(x, 0), "1 0..0");
        due("the greatest one", x.put(0, 5, LAST) + " " + Check.ends(x, 0), "99999995 5..99999999");
        doc.says("Returns the number of versions of the range.");
        due("one", x.put(0, 7, 7), 1);
        due("two", x.put(0, 7, 8), 2);
        due("all", x.put(0, 0, LAST), 100000000);
        dueNoSlot(NO_SLOT, slot -> x.put(slot, 1, 2));
        doc.says("Throws `IllegalArgumentException` if a number is no version, or the last one is less than the first one");
        dueEach(NO_VERSIONS, "first version", first -> x.put(0, first, LAST), Check.ARGUMENT);
        dueEach(NO_VERSIONS, "last version", last -> x.put(0, 0, last), Check.ARGUMENT);
        dueEach(NO_VERSIONS, "version twice", both -> x.put(0, both, both), Check.ARGUMENT);
        dueThrown("less by 1", () -> x.put(0, 5, 4), Check.ARGUMENT);
        dueThrown("less by all", () -> x.put(0, LAST, 0), Check.ARGUMENT);
        due("the slot stays", Check.ends(x, 0), "0..99999999");
        due("those were no changes", x.undo(), 7);
        due("and left the one before", Check.ends(x, 0), "7..8");
    }

    private void clear() {
        doc.section("Promise 7: clear");
        doc.says("Empties a slot.");
        VersionAlgebra x = Make.with("1.x", "2.x", "<0.0.0-0");
        x.clear(0);
        due("the slot", Check.ends(x, 0), Check.NO_ELEMENT);
        due("the others stay", Check.ends(x, 1) + " " + x.account(0), "2000000..2999999 2");
        doc.says(THE_SLOT);
        x.put(11, 1, 2);
        due("the last one", x.clear(11) + " " + Check.ends(x, 11), "true " + Check.NO_ELEMENT);
        doc.says("Returns whether it had a range.");
        due("a range", x.clear(1), true);
        due("one without versions", x.clear(2), true);
        due("none", x.clear(1), false);
        due("never one", x.clear(7), false);
        dueNoSlot(NO_SLOT, slot -> x.clear(slot));
    }

    private void copy() {
        doc.section("Promise 8: copy");
        doc.says("Copies the range of a slot, or its emptiness, to another one.");
        VersionAlgebra x = Make.with("1.x|3.x", "5.x", "<0.0.0-0");
        x.copy(0, 1);
        due("to one with a range", Check.ends(x, 1), "1000000..1999999 3000000..3999999");
        x.copy(1, 4);
        due("to an empty one", Check.ends(x, 4), "1000000..1999999 3000000..3999999");
        due("the slot itself stays", Check.ends(x, 0), "1000000..1999999 3000000..3999999");
        x.copy(2, 4);
        due("a range without versions", Check.ends(x, 4), "");
        x.copy(9, 4);
        due("emptiness", Check.ends(x, 4), Check.NO_ELEMENT);
        x.put(0, 1, 2);
        due("the copy is one of its own", Check.ends(x, 1), "1000000..1999999 3000000..3999999");
        doc.says("- `from`: the slot");
        x.put(11, 7, 8);
        due("the last one", x.copy(11, 5) + " " + Check.ends(x, 5), "5 7..8");
        due("the first one", x.copy(0, 5) + " " + Check.ends(x, 5), "5 1..2");
        doc.says("- `to`: the other slot, possibly the same");
        due("the last one", x.copy(0, 11) + " " + Check.ends(x, 11), "5 1..2");
        due("the same one", x.copy(0, 0) + " " + Check.ends(x, 0), "5 1..2");
        due("the same empty one", x.copy(7, 7) + " " + Check.ends(x, 7), "5 " + Check.NO_ELEMENT);
        doc.says("Returns the number of slots with a range then.");
        VersionAlgebra y = new VersionAlgebra();
        due("none", y.copy(0, 1), 0);
        y.put(0, 1, 2);
        for (int slot = 1; slot < 12; slot++) {
            due("one more", y.copy(0, slot), slot + 1);
        }
        due("as many", y.copy(0, 5), 12);
        y.clear(3);
        due("one less", y.copy(3, 0), 10);
        dueNoSlot(ONE_NO_SLOT, slot -> y.copy(slot, 0));
        dueEach(NO_SLOTS, "other slot", slot -> y.copy(1, slot), Check.INDEX);
        dueEach(NO_SLOTS, "slot twice", slot -> y.copy(slot, slot), Check.INDEX);
    }

    private void spans() {
        doc.section("Promise 9: spans");
        VersionAlgebra x = Make.with("1.x|3.x|5.x", "*", "<0.0.0-0", "1.x|2.x");
        x.copy(0, 11);
        doc.says("Returns the number of spans of a range.");
        due("three", x.spans(0), 3);
        due("of two rows that touch", x.spans(3), 1);
        doc.says(THE_SLOT);
        due("the last one", x.spans(11), 3);
        doc.says("Returns the number.");
        due("one", x.spans(1), 1);
        due("none", x.spans(2), 0);
        due("16", Make.putSpans(new VersionAlgebra(), 0, 1, 16).spans(0), 16);
        dueNoSlot(NO_SLOT, slot -> x.spans(slot));
        doc.says(EMPTY_SLOT);
        dueThrown("never filled", () -> x.spans(5), Check.NO_ELEMENT);
        x.clear(0);
        dueThrown("emptied", () -> x.spans(0), Check.NO_ELEMENT);
    }

    private void end() {
        doc.section("Promise 10: end");
        VersionAlgebra x = Make.putSpans(Make.with("1.x|3.x|5.x", "<0.0.0-0", "1.2.3", "*"), 4, 1001, 16);
        x.copy(0, 11);
        doc.says("Returns an end of a span.");
        due("first ones", x.end(0, 0, false) + " " + x.end(0, 1, false) + " " + x.end(0, 2, false), "1000000 3000000 5000000");
        due("last ones", x.end(0, 0, true) + " " + x.end(0, 1, true) + " " + x.end(0, 2, true), "1999999 3999999 5999999");
        doc.says(THE_SLOT);
        due("the last one", x.end(11, 1, false), 3000000);
        doc.says("- `span`: the span, from 0");
        due("the first one of 16", x.end(4, 0, false), 1001);
        due("the last one of 16", x.end(4, 15, true), 1031);
        doc.says("- `isLast`: true for the last version, false for the first one");
        due("of all", x.end(3, 0, false) + " " + x.end(3, 0, true), "0 99999999");
        doc.says("Returns the version.");
        due("a span of one", x.end(2, 0, false) + " " + x.end(2, 0, true), "1020399 1020399");
        dueNoSlot(NO_SLOT, slot -> x.end(slot, 0, true));
        doc.says("Throws `NoSuchElementException` if the slot is empty, or there is no such span");
        dueThrown("an empty slot", () -> x.end(7, 0, false), Check.NO_ELEMENT);
        dueThrown("a range without versions", () -> x.end(1, 0, false), Check.NO_ELEMENT);
        for (boolean isLast : new boolean[] {false, true}) {
            dueEach(new int[] {-1, 3, 4, Integer.MIN_VALUE, Integer.MAX_VALUE, 1 << 30, 1 << 31}, "span",
                    span -> x.end(0, span, isLast), Check.NO_ELEMENT);
            dueEach(new int[] {-1, 16, 17}, "span of 16", span -> x.end(4, span, isLast), Check.NO_ELEMENT);
        }
    }

    private void size() {
        doc.section("Promise 11: size");
        VersionAlgebra x = Make.with("*", "<0.0.0-0", "1.0.x|=2.0.0", "1.2.3");
        x.copy(2, 11);
        doc.says("Returns the number of versions of a range.");
        due("two spans", x.size(2), 10001);
        doc.says(THE_SLOT);
        due("the last one", x.size(11), 10001);
        doc.says("Returns the number.");
        due("all", x.size(0), 100000000);
        due("none", x.size(1), 0);
        due("one", x.size(3), 1);
        due("16 spans", Make.putSpans(new VersionAlgebra(), 0, 1, 16).size(0), 16);
        due("all but one", Check.evaluate(x, 4, "!3") + " " + x.size(4), "2 99999999");
        dueNoSlot(NO_SLOT, slot -> x.size(slot));
        doc.says(EMPTY_SLOT);
        dueThrown("the slot 5", () -> x.size(5), Check.NO_ELEMENT);
    }

    private void contains() {
        doc.section("Promise 12: contains");
        VersionAlgebra x = Make.with(">=1.0.0-5 <=2.0.0-7|4.x", "<0.0.0-0", "*");
        x.copy(0, 11);
        doc.says("Tells whether a version belongs to a range.");
        due("within", x.contains(0, 1500000, false), true);
        due("in a gap", x.contains(0, 3000000, false), false);
        due("in another span", x.contains(0, 4500000, false), true);
        doc.says(THE_SLOT);
        due("the last one", x.contains(11, 1500000, false), true);
        doc.says("- `version`: the version");
        int[] versions = {0, 1000004, 1000005, 2000007, 2000008, 3999999, 4000000, 4999999, 5000000, LAST};
        boolean[] dues = {false, false, true, true, false, false, true, true, false, false};
        for (int i = 0; i < versions.length; i++) {
            due(String.valueOf(versions[i]), x.contains(0, versions[i], false), dues[i]);
        }
        due("the least one of all", x.contains(2, 0, false), true);
        due("the greatest one of all", x.contains(2, LAST, false), true);
        doc.says(IS_STRICT);
        due("not strictly", x.contains(0, 1500000, false) + " " + x.contains(0, 1500000, true), "true false");
        due("strictly", x.contains(0, 1000050, true) + " " + x.contains(0, 2000001, true), "true true");
        doc.says("Returns whether it does.");
        due("nothing belongs to none", x.contains(1, 0, false) + " " + x.contains(1, LAST, true), "false false");
        dueNoSlot(NO_SLOT, slot -> x.contains(slot, 0, true));
        dueNoVersion(version -> x.contains(0, version, false));
        dueEach(NO_VERSIONS, "version for an empty slot", version -> x.contains(5, version, true), Check.ARGUMENT);
        doc.says(EMPTY_SLOT);
        dueThrown("strictly", () -> x.contains(5, 0, true), Check.NO_ELEMENT);
        dueThrown("not strictly", () -> x.contains(5, 0, false), Check.NO_ELEMENT);
    }

    private void from() {
        doc.section("Promise 13: from");
        VersionAlgebra x = Make.with("1.x|3.x", "<0.0.0-0", "*");
        x.copy(0, 11);
        doc.says("Returns the least version of a range that is at least a version.");
        due("within", x.from(0, 1500000), 1500000);
        due("in a gap", x.from(0, 2000000) + " " + x.from(0, 2999999), "3000000 3000000");
        due("ahead of all", x.from(0, 5), 1000000);
        doc.says(THE_SLOT);
        due("the last one", x.from(11, 5), 1000000);
        doc.says("- `version`: the version");
        due("the least one", x.from(0, 0) + " " + x.from(2, 0), "1000000 0");
        due("the greatest one", x.from(2, LAST), LAST);
        doc.says("Returns the version.");
        due("the first one of a span", x.from(0, 1000000) + " " + x.from(0, 3000000), "1000000 3000000");
        due("the last one of a span", x.from(0, 1999999) + " " + x.from(0, 3999999), "1999999 3999999");
        dueNoSlot(NO_SLOT, slot -> x.from(slot, 0));
        dueNoVersion(version -> x.from(0, version));
        dueEach(NO_VERSIONS, "version for an empty slot", version -> x.from(5, version), Check.ARGUMENT);
        doc.says("Throws `NoSuchElementException` if the slot is empty, or there is no such version");
        dueThrown("an empty slot", () -> x.from(5, 0), Check.NO_ELEMENT);
        dueThrown("none", () -> x.from(1, 0), Check.NO_ELEMENT);
        dueThrown("behind the last one", () -> x.from(0, 4000000), Check.NO_ELEMENT);
        dueThrown("the greatest one", () -> x.from(0, LAST), Check.NO_ELEMENT);
    }

    private void relation() {
        doc.section("Promise 14: relation");
        VersionAlgebra x = Make.with("1.x", "1.2.x", "2.x", "<0.0.0-0", "1.9.x|2.x", "*", "1.x|3.x");
        x.copy(1, 11);
        doc.says("Tells how two ranges are related.");
        due("partly", x.relation(0, 4) + " " + x.relation(4, 0), "0 0");
        doc.says("- `slot`: the one");
        due("the first one", x.relation(0, 1), 4);
        due("the last one", x.relation(11, 0), 2);
        doc.says("- `other`: the other one");
        due("the first one", x.relation(1, 0), 2);
        due("the last one", x.relation(0, 11), 4);
        doc.says("Returns the sum of 1 if no version belongs to both, 2 if each version of the one belongs to the other one, and 4 if "
                + "each version of the other one belongs to the one.");
        due("1", x.relation(0, 2) + " " + x.relation(2, 0), "1 1");
        due("2", x.relation(0, 6) + " " + x.relation(6, 5), "2 2");
        due("4", x.relation(6, 0) + " " + x.relation(5, 6), "4 4");
        due("2 and 4", x.relation(0, 0) + " " + x.relation(1, 11), "6 6");
        due("1 and 2, none and some", x.relation(3, 0) + " " + x.relation(3, 5), "3 3");
        due("1 and 4, some and none", x.relation(0, 3) + " " + x.relation(5, 3), "5 5");
        due("1, 2 and 4, none and none", x.relation(3, 3), 7);
        x.put(7, 5, 6);
        x.put(8, 7, 8);
        x.put(9, 6, 7);
        due("side by side", x.relation(7, 8) + " " + x.relation(8, 7), "1 1");
        due("one in common", x.relation(7, 9) + " " + x.relation(9, 8), "0 0");
        x.put(8, 5, 7);
        due("all but one", x.relation(7, 8) + " " + x.relation(8, 9), "2 4");
        due("all but the greatest one", x.put(7, 0, LAST - 1) + " " + x.relation(5, 7) + " " + x.relation(7, 5), "99999999 4 2");
        due("all but the least one", x.put(7, 1, LAST) + " " + x.relation(5, 7) + " " + x.relation(7, 5), "99999999 4 2");
        dueNoSlot(ONE_NO_SLOT, slot -> x.relation(slot, 0));
        dueEach(NO_SLOTS, "other slot", slot -> x.relation(0, slot), Check.INDEX);
        dueEach(NO_SLOTS, "other slot of an empty one", slot -> x.relation(10, slot), Check.INDEX);
        doc.says("Throws `NoSuchElementException` if one of them is empty");
        dueThrown("the one", () -> x.relation(10, 0), Check.NO_ELEMENT);
        dueThrown("the other one", () -> x.relation(0, 10), Check.NO_ELEMENT);
        dueThrown("both", () -> x.relation(10, 10), Check.NO_ELEMENT);
    }

    private void agrees() {
        doc.section("Promise 15: agrees");
        VersionAlgebra x = new VersionAlgebra();
        x.put(0, 100, 200);
        x.put(1, 150, 300);
        x.put(2, 100, 300);
        x.put(3, 150, 200);
        x.put(4, 100, 149);
        x.put(5, 0, LAST);
        Check.evaluate(x, 6, "0-0");
        doc.says("Tells, by a second way, whether a range is what an operation of two others gives, by looking at all ends of their "
                + "spans, the versions directly ahead of them and directly behind them, and all published versions.");
        due("as due", x.agrees(2, 0, 1, 0) + " " + x.agrees(3, 0, 1, 1) + " " + x.agrees(4, 0, 1, 2), "true true true");
        int[][] near = {{99, 300}, {101, 300}, {100, 299}, {100, 301}};
        for (int[] ends : near) {
            x.put(7, ends[0], ends[1]);
            due(ends[0] + ".." + ends[1], x.agrees(7, 0, 1, 0), false);
        }
        due("the least and the greatest one", x.agrees(5, 5, 6, 0) + " " + x.agrees(6, 5, 5, 0), "true false");
        due("ranges without versions", x.agrees(6, 6, 6, 0) + " " + x.agrees(6, 6, 6, 1) + " " + x.agrees(6, 6, 6, 2),
                "true true true");
        x.publish(175);
        x.publish(125);
        due("published ones that agree", x.agrees(2, 0, 1, 0) + " " + x.agrees(3, 0, 1, 1) + " " + x.agrees(4, 0, 1, 2),
                "true true true");
        due("published ones that do not", x.agrees(4, 0, 1, 1) + " " + x.agrees(3, 0, 1, 2), "false false");
        doc.says("- `slot`: the slot with the result");
        x.copy(2, 11);
        due("the last one", x.agrees(11, 0, 1, 0), true);
        due("one of the two", x.agrees(0, 0, 3, 0) + " " + x.agrees(3, 0, 3, 0), "true false");
        doc.says("- `one`: the one slot");
        due("in its place", x.agrees(4, 0, 1, 2) + " " + x.agrees(4, 1, 0, 2), "true false");
        due("the last one", x.agrees(0, 11, 0, 1), true);
        doc.says("- `other`: the other slot");
        due("the last one", x.agrees(0, 0, 11, 1), true);
        doc.says("- `operation`: 0 for \"+\", 1 for \"&\", 2 for \"-\"");
        for (int operation = 0; operation < 3; operation++) {
            due("of " + operation, x.agrees(2, 0, 1, operation) + " " + x.agrees(3, 0, 1, operation) + " "
                    + x.agrees(4, 0, 1, operation), (operation == 0) + " " + (operation == 1) + " " + (operation == 2));
        }
    }

    private void agreesThrows() {
        doc.says("Returns whether each of these versions belongs to the result just if it has to.");
        VersionAlgebra x = Make.with("1.x|3.x", "1.5.x|3.x", "1.x", "3.x", "1.5.x|3.x|5.x", "1.5.x", "1.x|3.x|5.x");
        due("a span more in the result", x.agrees(4, 0, 1, 1), false);
        due("a span less in the result", x.agrees(5, 0, 1, 1), false);
        due("just those", x.agrees(1, 0, 1, 1), true);
        due("a span more than both have", x.agrees(6, 2, 3, 0), false);
        due("a span less than both have", x.agrees(2, 2, 3, 0) + " " + x.agrees(3, 2, 3, 0), "false false");
        due("just both", x.agrees(0, 2, 3, 0), true);
        due("what the other one has", x.agrees(0, 0, 3, 2), false);
        due("just what it has not", x.agrees(2, 0, 3, 2), true);
        dueNoSlot(ONE_NO_SLOT, slot -> x.agrees(slot, 0, 1, 0));
        dueEach(NO_SLOTS, "one slot", slot -> x.agrees(10, slot, 1, 3), Check.INDEX);
        dueEach(NO_SLOTS, "other slot", slot -> x.agrees(10, 10, slot, -1), Check.INDEX);
        doc.says("Throws `IllegalArgumentException` if there is no such operation");
        int[] none = {-1, 3, 4, Integer.MIN_VALUE, Integer.MAX_VALUE};
        dueEach(none, "operation", operation -> x.agrees(0, 0, 1, operation), Check.ARGUMENT);
        dueEach(none, "operation of empty slots", operation -> x.agrees(10, 10, 10, operation), Check.ARGUMENT);
        doc.says("Throws `NoSuchElementException` if one of the slots is empty");
        dueThrown("the result", () -> x.agrees(10, 0, 1, 0), Check.NO_ELEMENT);
        dueThrown("the one", () -> x.agrees(0, 10, 1, 1), Check.NO_ELEMENT);
        dueThrown("the other one", () -> x.agrees(0, 1, 10, 2), Check.NO_ELEMENT);
    }

    private void limit() {
        doc.section("Promise 16: limit");
        VersionAlgebra x = new VersionAlgebra();
        doc.says("Returns the greatest version that belongs to a caret or a tilde.");
        due("a caret", x.limit(1020399, true), 1999999);
        due("a tilde", x.limit(1020399, false), 1029999);
        doc.says("- `version`: its version");
        int[] versions = {0, 98, 99, 100, 9899, 9900, 9999, 10000, 980000, 989999, 990000, 999999, 1000000, 1020304, 1990000,
            98999999, 99000000, 99980000, 99990000, LAST};
        int[] carets = {99, 99, 99, 199, 9899, 9999, 9999, 19999, 989999, 989999, 999999, 999999, 1999999, 1999999, 1999999,
            98999999, LAST, LAST, LAST, LAST};
        int[] tildes = {9999, 9999, 9999, 9999, 9999, 9999, 9999, 19999, 989999, 989999, 999999, 999999, 1009999, 1029999,
            1999999, 98999999, 99009999, 99989999, LAST, LAST};
        for (int i = 0; i < versions.length; i++) {
            due("a caret of " + versions[i], x.limit(versions[i], true), carets[i]);
            due("a tilde of " + versions[i], x.limit(versions[i], false), tildes[i]);
        }
        doc.says("- `isCaret`: true for the caret, false for the tilde");
        due("both", x.limit(0, true) + " " + x.limit(0, false), "99 9999");
        doc.says("Returns the version.");
        for (String version : new String[] {"0.0.0-0", "0.0.0", "0.0.99", "0.1.5", "0.99.0", "1.2.3-4", "99.0.0", "99.99.99"}) {
            VersionAlgebra y = Make.with(version, "^" + version, "~" + version);
            due("as read: ^" + version, y.limit(y.end(0, 0, true), true), y.end(1, 0, true));
            due("as read: ~" + version, y.limit(y.end(0, 0, true), false), y.end(2, 0, true));
        }
        dueNoVersion(version -> x.limit(version, true));
        dueEach(NO_VERSIONS, "version of a tilde", version -> x.limit(version, false), Check.ARGUMENT);
    }

    private void textLength() {
        doc.section("Promise 17: textLength");
        VersionAlgebra x = Make.with("<0.0.0-0", "*", "1.2.3-4", "1.x|99.x");
        x.copy(2, 11);
        doc.says("Returns the length of the canonical text of a range.");
        due("=1.2.3-4", x.textLength(2), 8);
        due(">=1.0.0-0 <=1.99.99|>=99.0.0-0", x.textLength(3), 30);
        doc.says(THE_SLOT);
        due("the last one", x.textLength(11), 8);
        doc.says("Returns the length.");
        due("none", x.textLength(0), 4);
        due("*", x.textLength(1), 1);
        VersionAlgebra y = new VersionAlgebra();
        y.put(0, 90909000, 90909001);
        for (int span = 1; span < 16; span++) {
            y.put(1, 90909010 + 4 * span, 90909011 + 4 * span);
            Check.type(y, "0+1").evaluate(0);
        }
        due("16 spans", y.textLength(0), 25 + 15 * 27 + 15);
        due("the text buffer stays", x.account(7), 0);
        dueNoSlot(NO_SLOT, slot -> x.textLength(slot));
        doc.says(EMPTY_SLOT);
        dueThrown("the slot 5", () -> x.textLength(5), Check.NO_ELEMENT);
    }

    private void text() {
        doc.section("Promise 18: text");
        VersionAlgebra x = Make.with("<0.0.0-0", "*", "1.2.3-4", "1.x|99.x");
        x.copy(2, 11);
        doc.says("Returns a character of the canonical text of a range.");
        due("all of them", Check.text(x, 3), ">=1.0.0-0 <=1.99.99|>=99.0.0-0");
        doc.says(THE_SLOT);
        due("the last one", Check.text(x, 11), "=1.2.3-4");
        doc.says("- `index`: the index, from 0");
        due("the first one", x.text(2, 0), '=');
        due("the second one", x.text(2, 1), '1');
        due("the last one", x.text(2, 7), '4');
        doc.says("Returns the character.");
        due("of none", "" + x.text(0, 0) + x.text(0, 1) + x.text(0, 2) + x.text(0, 3), "none");
        due("of all", x.text(1, 0), '*');
        due("a blank", x.text(3, 9), ' ');
        dueNoSlot(NO_SLOT, slot -> x.text(slot, 0));
        doc.says("Throws `NoSuchElementException` if the slot is empty, or there is no such index");
        dueThrown("an empty slot", () -> x.text(5, 0), Check.NO_ELEMENT);
        dueEach(new int[] {-1, 8, 9, Integer.MIN_VALUE, Integer.MAX_VALUE}, "index", index -> x.text(2, index), Check.NO_ELEMENT);
        dueThrown("behind none", () -> x.text(0, 4), Check.NO_ELEMENT);
        dueThrown("behind *", () -> x.text(1, 1), Check.NO_ELEMENT);
        due("behind a longer text", x.text(3, 29) + " " + Check.ask(() -> x.text(2, 29)), "0 " + Check.NO_ELEMENT);
    }

    private void refusal() {
        doc.section("Promise 19: refusal");
        doc.says("Returns the reason for which the latest call that was refused was refused.");
        VersionAlgebra x = Make.putSpans(new VersionAlgebra(), 0, 1001, 16);
        Check.evaluate(x, 1, "9");
        Check.read(x, 1, "1.0.0-99");
        due("the latest one", x.refusal(), 2);
        x.put(1, 1, 2);
        Check.read(x, 1, "1.x");
        due("a successful call leaves it", x.refusal(), 2);
        Check.read(x, 1, "?");
        Check.ask(() -> x.put(12, 0, 0));
        Check.ask(() -> x.published(0));
        due("another exception leaves it", x.refusal(), 2);
        doc.says("Returns the reason, 1 to 5.");
        due("1", Check.evaluate(x, 1, "9") + " " + x.refusal(), Check.REFUSED + " 1");
        due("2", Check.read(x, 1, "1.0.0-99") + " " + x.refusal(), Check.REFUSED + " 2");
        due("3", Check.evaluate(x, 1, "!0") + " " + x.refusal(), Check.REFUSED + " 3");
        Make.publish(x, 0, 30);
        due("4", Check.ask(() -> x.publish(40)) + " " + x.refusal(), Check.REFUSED + " 4");
        due("5", Check.ask(() -> x.withdraw(40)) + " " + x.refusal(), Check.REFUSED + " 5");
        doc.says("Throws `NoSuchElementException` if none was refused");
        VersionAlgebra y = new VersionAlgebra();
        dueThrown("a new object", () -> y.refusal(), Check.NO_ELEMENT);
        Check.read(y, 0, "?");
        Check.evaluate(y, 0, "?");
        Check.ask(() -> y.read(12));
        Check.ask(() -> y.publish(-1));
        y.put(0, 1, 2);
        dueThrown("other exceptions are no refusals", () -> y.refusal(), Check.NO_ELEMENT);
    }

    private void cause() {
        doc.section("Promise 20: cause");
        doc.says("Returns a position of the chain of the latest failure.");
        VersionAlgebra x = Make.with("1.x");
        Check.evaluate(x, 0, "0+(0&!9)");
        due("the chain", Check.chain(x), "1 4 5 6");
        Check.evaluate(x, 0, "0-9");
        due("the latest one, shorter", Check.chain(x), "1 2");
        Check.evaluate(x, 0, "0+9+0+0");
        due("the latest one, longer", Check.chain(x), "5 3 1 2");
        Check.evaluate(x, 0, "0+0");
        Check.evaluate(x, 0, "9+");
        Check.read(x, 0, "1.0.0-99");
        Check.ask(() -> x.withdraw(1));
        due("no failures", Check.chain(x), "5 3 1 2");
        doc.says("- `index`: the index, from 0, or -1 for the length of the chain");
        due("the first one", x.cause(0), 5);
        due("the last one", x.cause(3), 2);
        due("the length", x.cause(-1), 4);
        doc.says("Returns the position, or the length.");
        Check.evaluate(x, 0, "9");
        due("of one position", x.cause(-1) + " " + x.cause(0), "1 0");
        StringBuilder longest = new StringBuilder("9");
        for (int sign = 0; sign < 29; sign++) {
            longest.append("+0");
        }
        Check.evaluate(x, 0, longest.toString());
        due("of 29 operations", x.cause(-1) + " " + x.cause(0) + " " + x.cause(28) + " " + x.cause(29), "30 57 1 0");
        Check.evaluate(x, 0, "!!!!!!!!9");
        due("of 8 signs", Check.chain(x), "0 1 2 3 4 5 6 7 8");
        doc.says("Throws `IllegalStateException` if no expression has failed");
        VersionAlgebra y = new VersionAlgebra();
        dueEach(new int[] {-1, 0, -2, 5}, "chain for", index -> y.cause(index), Check.STATE);
        Check.evaluate(y, 0, "9+");
        Check.read(y, 0, "1.0.0-99");
        Check.ask(() -> y.withdraw(1));
        dueEach(new int[] {-1, 0, -2, 5}, "chain yet for", index -> y.cause(index), Check.STATE);
        doc.says("Throws `NoSuchElementException` if index is not -1 and there is no such position");
        dueEach(new int[] {-2, 9, 10, Integer.MIN_VALUE, Integer.MAX_VALUE}, "position", index -> x.cause(index), Check.NO_ELEMENT);
    }

    private void publish() {
        doc.section("Promise 21: publish");
        doc.says("Publishes a version.");
        VersionAlgebra x = new VersionAlgebra();
        x.publish(500);
        x.publish(300);
        x.publish(400);
        due("those", Check.published(x), "300 400 500");
        doc.says("- `version`: the version");
        x.publish(LAST);
        x.publish(0);
        due("the least and the greatest one", Check.published(x), "0 300 400 500 99999999");
        doc.says("Returns the number of published versions then.");
        for (int count = 6; count <= 30; count++) {
            due("number " + count, x.publish(1000 - count), count);
        }
        VersionAlgebra y = new VersionAlgebra();
        due("the first one", y.publish(7), 1);
        dueNoVersion(version -> y.publish(version));
        dueEach(NO_VERSIONS, "version with 30 of them", version -> x.publish(version), Check.ARGUMENT);
        doc.says("Throws `UnsupportedOperationException` if it is refused for reason 4 or 5; the reason is kept for refusal");
        due("4", Check.ask(() -> x.publish(1)) + " " + x.refusal(), Check.REFUSED + " 4");
        due("5", Check.ask(() -> y.publish(7)) + " " + y.refusal(), Check.REFUSED + " 5");
        Check.ask(() -> x.withdraw(1));
        due("both", Check.ask(() -> x.publish(300)) + " " + x.refusal(), Check.REFUSED + " 4");
        due("nothing is published by them", x.account(3) + " " + y.account(3), "30 1");
        due("they are no changes", y.undo(), 0);
    }

    private void withdraw() {
        doc.section("Promise 22: withdraw");
        doc.says("Withdraws a published version.");
        VersionAlgebra x = Make.publish(new VersionAlgebra(), 100, 30);
        x.withdraw(110);
        due("it is not there", Check.ask(() -> x.withdraw(110)) + " " + x.published(10), Check.REFUSED + " 111");
        doc.says("- `version`: the version");
        x.withdraw(100);
        x.withdraw(129);
        due("the first and the last one", x.published(0) + " " + x.published(26), "101 128");
        VersionAlgebra y = new VersionAlgebra();
        y.publish(0);
        y.publish(LAST);
        due("the greatest one", y.withdraw(LAST) + " " + Check.published(y), "1 0");
        due("the least one", y.withdraw(0) + " " + Check.published(y), "0 ");
        doc.says("Returns the number of published versions then.");
        due("of 27", x.withdraw(120), 26);
        due("of 26", x.withdraw(119), 25);
        dueNoVersion(version -> x.withdraw(version));
        doc.says("Throws `UnsupportedOperationException` if it is refused for reason 5; the reason is kept for refusal");
        due("never published", Check.ask(() -> x.withdraw(500)) + " " + x.refusal(), Check.REFUSED + " 5");
        due("withdrawn", Check.ask(() -> y.withdraw(0)) + " " + y.refusal(), Check.REFUSED + " 5");
        due("ahead of all", Check.ask(() -> x.withdraw(0)), Check.REFUSED);
        due("behind all", Check.ask(() -> x.withdraw(LAST)), Check.REFUSED);
        due("the others stay", x.account(3), 25);
        due("they are no changes", y.undo() + " " + Check.published(y), "3 0");
    }

    private void published() {
        doc.section("Promise 23: published");
        VersionAlgebra x = new VersionAlgebra();
        for (int version = 30; version > 0; version--) {
            x.publish(version * 7 % 31);
        }
        doc.says("Returns a published version.");
        due("one of them", x.published(9), 10);
        doc.says("- `index`: its place in ascending order, from 0");
        for (int place = 0; place < 30; place++) {
            due("the place " + place, x.published(place), place + 1);
        }
        doc.says("Returns the version.");
        due("a withdrawn one gives its place", x.withdraw(10) + " " + x.published(9), "29 11");
        doc.says("Throws `NoSuchElementException` if there is no such place");
        dueEach(new int[] {-1, 29, 30, 31, Integer.MIN_VALUE, Integer.MAX_VALUE}, "place", place -> x.published(place),
                Check.NO_ELEMENT);
        dueThrown("none published", () -> new VersionAlgebra().published(0), Check.NO_ELEMENT);
        due("all 30 places", x.publish(0) + " " + x.published(29), "30 30");
        dueThrown("the place 30", () -> x.published(30), Check.NO_ELEMENT);
    }

    /** The slots 0, 1, 2 and 3, and seven published versions, of which 4 are prereleases. */
    private static VersionAlgebra withPublished() {
        VersionAlgebra x = Make.with(">=1.0.0-5 <=2.0.0", "3.x", "<0.0.0-0", "*");
        for (int version : new int[] {1000004, 1000006, 1000099, 1500098, 2500099, 1500099, 1999998}) {
            x.publish(version);
        }
        return x;
    }

    private void best() {
        doc.section("Promise 24: best");
        VersionAlgebra x = withPublished();
        x.copy(0, 11);
        doc.says("Returns the greatest published version that belongs to a range.");
        due("of some", x.best(0, false), 1999998);
        due("of all", x.best(3, false), 2500099);
        doc.says(THE_SLOT);
        due("the last one", x.best(11, false), 1999998);
        doc.says(IS_STRICT);
        due("strictly", x.best(0, true), 1500099);
        due("of all strictly", x.best(3, true), 2500099);
        doc.says("Returns the version.");
        VersionAlgebra y = Make.with("*", "=0.0.0-0", "=99.99.99");
        y.publish(0);
        due("the least one", y.best(0, true) + " " + y.best(1, true), "0 0");
        y.publish(LAST);
        due("the greatest one", y.best(0, true) + " " + y.best(2, true), "99999999 99999999");
        dueNoSlot(NO_SLOT, slot -> x.best(slot, false));
        doc.says("Throws `NoSuchElementException` if the slot is empty, or none belongs to it");
        dueThrown("an empty slot", () -> x.best(5, false), Check.NO_ELEMENT);
        dueThrown("none of them", () -> x.best(1, false), Check.NO_ELEMENT);
        dueThrown("a range without versions", () -> x.best(2, true), Check.NO_ELEMENT);
        dueThrown("none published", () -> Make.with("*").best(0, false), Check.NO_ELEMENT);
        VersionAlgebra z = Make.with("1.x");
        z.publish(1500050);
        due("none strictly", z.best(0, false) + " " + Check.ask(() -> z.best(0, true)), "1500050 " + Check.NO_ELEMENT);
    }

    private void matching() {
        doc.section("Promise 25: matching");
        VersionAlgebra x = withPublished();
        x.copy(0, 11);
        doc.says("Returns the number of published versions that belong to a range.");
        due("some", x.matching(0, false), 5);
        doc.says(THE_SLOT);
        due("the last one", x.matching(11, false), 5);
        doc.says("- `isStrict`: whether they have to belong strictly");
        due("strictly", x.matching(0, true) + " " + x.matching(3, true), "3 3");
        doc.says("Returns the number.");
        due("all", x.matching(3, false), 7);
        due("none of them", x.matching(1, false) + " " + x.matching(2, true), "0 0");
        due("none published", Make.with("*").matching(0, false), 0);
        VersionAlgebra y = Make.publish(Make.with("*"), 0, 30);
        due("30", y.matching(0, false) + " " + y.matching(0, true), "30 30");
        dueNoSlot(NO_SLOT, slot -> x.matching(slot, false));
        doc.says(EMPTY_SLOT);
        dueThrown("not strictly", () -> x.matching(5, false), Check.NO_ELEMENT);
        dueThrown("strictly", () -> x.matching(5, true), Check.NO_ELEMENT);
        dueThrown("none published", () -> new VersionAlgebra().matching(0, true), Check.NO_ELEMENT);
    }

    private void share() {
        doc.section("Promise 26: share");
        VersionAlgebra x = withPublished();
        x.copy(0, 11);
        doc.says("Returns the share of the published versions that belong to a range.");
        due("some, also those that do not belong strictly", x.share(0), 5.0 / 7.0);
        doc.says(THE_SLOT);
        due("the last one", x.share(11), 5.0 / 7.0);
        doc.says("Returns their number divided by that of all published ones, both as doubles.");
        due("all", x.share(3), 1.0);
        due("none", x.share(1), 0.0);
        due("of a range without versions", x.share(2), 0.0);
        VersionAlgebra y = Make.publish(Make.with("<=0.0.0-0"), 0, 1);
        for (int count = 2; count <= 30; count++) {
            y.publish(count);
            due("1 of " + count, y.share(0), 1.0 / count);
        }
        dueNoSlot(NO_SLOT, slot -> x.share(slot));
        doc.says(EMPTY_SLOT);
        dueThrown("the slot 5", () -> x.share(5), Check.NO_ELEMENT);
        dueThrown("none published", () -> new VersionAlgebra().share(5), Check.NO_ELEMENT);
        doc.says("Throws `ArithmeticException` if none is published");
        VersionAlgebra z = Make.with("*", "<0.0.0-0");
        dueThrown("all", () -> z.share(0), Check.ARITHMETIC);
        dueThrown("a range without versions", () -> z.share(1), Check.ARITHMETIC);
        z.publish(5);
        z.withdraw(5);
        dueThrown("withdrawn", () -> z.share(0), Check.ARITHMETIC);
    }

    private void account() {
        doc.section("Promise 27: account");
        doc.says("Returns an account.");
        VersionAlgebra x = Make.with("1.x|3.x|5.x", "2.x", "<0.0.0-0", "7.0.0|8.0.0");
        for (int version : new int[] {1000000, 2000099, 4000001, 4000099, 6000098, 9000099}) {
            x.publish(version);
        }
        Check.type(x, "12345");
        due("the slots with a range, also the one without versions", x.account(0), 4);
        doc.says("- `what`: 0 for the slots with a range, 1 for the spans of all ranges, 2 for the greatest number of spans of a range, "
                + "or 0, 3 for the published versions, 4 for those of them that are prereleases, 5 for the published versions that "
                + "belong to no range, 6 for the ranges without versions, 7 for the characters in the text buffer");
        dueAccounts(x, 4, 6, 3, 6, 3, 4, 1, 5);
        x.copy(0, 4);
        x.copy(2, 5);
        dueAccounts(x, 6, 9, 3, 6, 3, 4, 2, 5);
        x.put(6, 0, LAST);
        x.append('6');
        dueAccounts(x, 7, 10, 3, 6, 3, 0, 2, 6);
        dueAccounts(new VersionAlgebra(), 0, 0, 0, 0, 0, 0, 0, 0);
        dueAccounts(Make.with("<0.0.0-0"), 1, 0, 0, 0, 0, 0, 1, 0);
        VersionAlgebra full = Make.putSpans(Make.publish(new VersionAlgebra(), 70, 30), 0, 1001, 16);
        for (int slot = 1; slot < 12; slot++) {
            full.copy(0, slot);
        }
        Check.type(full, "000000000000000000000000000000000000000000000000000000000000");
        dueAccounts(full, 12, 192, 16, 30, 29, 30, 0, 60);
        doc.says("Returns the number.");
        VersionAlgebra y = Make.with("1.x");
        y.publish(1000050);
        due("one that belongs, but not strictly", y.account(5), 0);
        y.clear(0);
        due("no range at all", y.account(5), 1);
        doc.says("Throws `IllegalArgumentException` if what is not from 0 to 7");
        dueEach(new int[] {-1, 8, 9, Integer.MIN_VALUE, Integer.MAX_VALUE}, "account", what -> x.account(what), Check.ARGUMENT);
    }

    private void dueAccounts(VersionAlgebra x, int... accounts) {
        for (int what = 0; what < accounts.length; what++) {
            due("the account " + what, x.account(what), accounts[what]);
        }
    }

    private void undo() {
        doc.section("Promise 28: undo");
        doc.says("Undoes the latest change that is kept.");
        VersionAlgebra x = Make.with("1.x", "2.x");
        x.publish(7);
        x.undo();
        due("publish", Check.published(x) + " " + Check.ends(x, 1), " 2000000..2999999");
        x.undo();
        due("read", Check.ends(x, 0) + " " + Check.ends(x, 1), "1000000..1999999 " + Check.NO_ELEMENT);
        x.put(0, 1, 2);
        x.undo();
        due("one behind an undone one", Check.ends(x, 0), "1000000..1999999");
        x.undo();
        due("the first one", Check.ends(x, 0), Check.NO_ELEMENT);
        undoAmongVersions();
        doc.says("Returns the number of changes that can still be undone.");
        for (int version = 1; version <= 11; version++) {
            x.publish(version);
        }
        for (int left = 7; left >= 0; left--) {
            due("left " + left, x.undo() + " " + x.account(3), left + " " + (left + 3));
        }
        doc.says("Throws `IllegalStateException` if no change is kept");
        dueThrown("all 8 undone", () -> x.undo(), Check.STATE);
        due("the others stay", Check.published(x), "1 2 3");
        dueThrown("a new object", () -> new VersionAlgebra().undo(), Check.STATE);
        x.save();
        x.publish(4);
        x.restore();
        dueThrown("behind restore", () -> x.undo(), Check.STATE);
        x.clear(5);
        due("behind a change", x.undo() + " " + Check.ask(() -> x.undo()), "0 " + Check.STATE);
    }

    private void undoAmongVersions() {
        VersionAlgebra x = Make.publish(new VersionAlgebra(), 10, 3);
        x.publish(5);
        x.undo();
        due("publish ahead of all", Check.published(x), "10 11 12");
        x.withdraw(11);
        x.undo();
        due("withdraw between two", Check.published(x), "10 11 12");
        x.withdraw(10);
        x.publish(11000);
        x.undo();
        due("publish behind all", Check.published(x), "11 12");
        x.undo();
        due("withdraw of the first one", Check.published(x), "10 11 12");
    }

    private void save() {
        doc.section("Promise 29: save");
        doc.says("Saves what there is, in place of an earlier snapshot.");
        VersionAlgebra x = Make.with("1.x", "2.x");
        x.publish(5);
        x.save();
        x.clear(0);
        x.put(3, 1, 2);
        x.publish(6);
        x.restore();
        due("the slots", Check.ends(x, 0) + " " + Check.ends(x, 1) + " " + Check.ends(x, 3),
                "1000000..1999999 2000000..2999999 " + Check.NO_ELEMENT);
        due("the versions", Check.published(x), "5");
        x.put(0, 7, 7);
        x.withdraw(5);
        x.save();
        x.put(0, 8, 8);
        x.publish(9);
        x.restore();
        due("the later one", Check.ends(x, 0) + " " + Check.published(x), "7..7 ");
        x.put(0, 1, 1);
        x.put(0, 2, 2);
        x.save();
        due("it is no change and forgets none", x.undo() + " " + Check.ends(x, 0), "1 1..1");
        x.restore();
        due("undo leaves it", Check.ends(x, 0), "2..2");
        versionsOfTheSnapshot();
        VersionAlgebra y = new VersionAlgebra();
        y.save();
        Make.publish(y, 0, 30);
        y.restore();
        due("a new object", y.account(3), 0);
        Make.publish(y, 0, 30);
        y.save();
        y.withdraw(29);
        y.restore();
        due("30 versions", y.account(3) + " " + y.published(29), "30 29");
    }

    private void versionsOfTheSnapshot() {
        VersionAlgebra x = Make.publish(new VersionAlgebra(), 10, 3);
        x.save();
        x.withdraw(10);
        x.publish(13);
        x.restore();
        due("as many versions, but others", Check.published(x), "10 11 12");
        x.publish(5);
        x.restore();
        due("one ahead of them", Check.published(x), "10 11 12");
    }

    private void restore() {
        doc.section("Promise 30: restore");
        doc.says("Restores what was saved; the snapshot is kept.");
        VersionAlgebra x = Make.with("1.x");
        x.publish(5);
        x.save();
        for (int times = 0; times < 3; times++) {
            x.clear(0);
            x.publish(6 + times);
            due("it restores", Check.ask(() -> x.restore()), "nothing");
            due("the slot " + times, Check.ends(x, 0), "1000000..1999999");
            due("the versions " + times, Check.published(x), "5");
        }
        x.put(0, 1, 1);
        due("changes behind it are kept", x.undo() + " " + Check.ends(x, 0), "0 1000000..1999999");
        x.put(0, 1, 1);
        x.undo();
        x.restore();
        due("twice in a row", Check.ask(() -> x.restore()) + " " + Check.ends(x, 0), "nothing 1000000..1999999");
        doc.says("Throws `IllegalStateException` if there is no snapshot");
        VersionAlgebra y = Make.with("1.x");
        due("none", Check.ask(() -> y.restore()), Check.STATE);
        due("nothing has changed", Check.ends(y, 0) + " " + y.undo(), "1000000..1999999 0");
        y.save();
        due("then there is one", Check.ask(() -> y.restore()), "nothing");
    }
}
