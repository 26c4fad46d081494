/** For each promise of the document its ordinary inputs, the edges that it names, and wrong inputs. */
public final class PromiseTests {
    private static final int LAST = Make.LAST;
    private static final Check check = new Check();

    private PromiseTests() {
    }

    private static void due(String what, Object got, Object want) {
        check.due(what, got, want);
    }

    public static void main(String[] args) {
        newObject();
        append();
        readRows();
        readComparisons();
        readCaretsAndTildes();
        readSeries();
        readFaults();
        readRefusals();
        evaluateOperations();
        evaluateFaults();
        evaluateOpenSigns();
        evaluateRefusals();
        faultPosition();
        put();
        clear();
        copy();
        spans();
        end();
        size();
        contains();
        containsStrictly();
        from();
        relation();
        agrees();
        limit();
        textLength();
        text();
        refusal();
        causeAtSlots();
        causeAtOperations();
        causeIsKept();
        publish();
        withdraw();
        published();
        best();
        matching();
        share();
        account();
        undo();
        undoOfEachChange();
        undoLeavesTheRest();
        save();
        restore();
        throwingLeavesAll();
        check.finish();
    }

    private static void newObject() {
        VersionAlgebra x = new VersionAlgebra();
        for (int slot = 0; slot < 12; slot++) {
            due("1: a new slot " + slot, Check.ends(x, slot), Check.NO_ELEMENT);
        }
        for (int what = 0; what <= 7; what++) {
            due("1: a new account " + what, x.account(what), 0);
        }
        due("1: nothing is published", Check.ask(() -> x.published(0)), Check.NO_ELEMENT);
        VersionAlgebra y = new VersionAlgebra();
        y.put(0, 1, 2);
        y.publish(3);
        due("1: another object has its own slots", x.account(0), 0);
        due("1: another object has its own versions", x.account(3), 0);
    }

    private static void append() {
        VersionAlgebra x = new VersionAlgebra();
        for (int i = 0; i < 60; i++) {
            char c = (char) (i * 1111);
            due("2: append " + i, Check.ask(() -> x.append(c)), "nothing");
        }
        due("2: 60 characters", x.account(7), 60);
        due("2: one more", Check.ask(() -> x.append('1')), Check.STATE);
        due("2: still 60 characters", x.account(7), 60);
        due("2: the full buffer is read", Check.ask(() -> x.read(0)), Check.ARGUMENT);
        due("2: after reading there is room", Check.ask(() -> x.append('1')), "nothing");
        due("2: the characters are read in their order", Check.read(x, 0, ".2.3-4"), 1);
        due("2: and all of them", Check.ends(x, 0), "1020304..1020304");
        String full = "1.x|3.x|5.x|7.x|9.x|0.1.x|0.3.x|0.5.x|0.7.x|0.9.x|0.0.3|~0.1.";
        due("2: 60 characters stand", full.length() > 60, true);
        due("2: a text of 60 characters", Check.read(x, 0, "1.x|3.x|5.x|7.x|9.x|0.1.x|0.3.x|0.5.x|0.7.x|0.9.x|0.0.3-12 *"), 11);
        due("2: a high character is no low one", Make.faultOf("" + (char) ('1' + 256) + ".x"), 0);
        due("2: another high character", Make.faultOf("1" + (char) ('.' + 65280) + "x"), 1);
    }

    private static void readRows() {
        due("3: one row", Make.rangeOf(">=1.2.3 <2.0.0"), "1020399..2000098");
        due("3: two rows", Make.rangeOf(">=1.2.3 <2.0.0|^0.2.3"), "20399..29999 1020399..2000098");
        due("3: rows that overlap", Make.rangeOf("1.x|>=1.5.0 <=3.0.0"), "1000000..3000099");
        due("3: rows that touch", Make.rangeOf("2.x|1.x"), "1000000..2999999");
        due("3: rows one version apart", Make.rangeOf("<1.0.0-5|>1.0.0-5"), "0..1000004 1000006..99999999");
        due("3: a row within another", Make.rangeOf("1.x|1.2.x"), "1000000..1999999");
        due("3: the same row twice", Make.rangeOf("1.2.3|1.2.3"), "1020399..1020399");
        due("3: rows in any order", Make.rangeOf("3.x|1.x|5.x|0.1.x"),
                "10000..19999 1000000..1999999 3000000..3999999 5000000..5999999");
        due("3: parts without common versions", Make.rangeOf("1.x 2.x"), "");
        due("3: an empty row beside another one", Make.rangeOf("1.x 2.x|3.x"), "3000000..3999999");
        due("3: an empty row stays empty", Make.rangeOf("<0.0.0-0 * >=0.0.0-0|1.x >2.0.0 1.x"), "");
        due("3: three parts", Make.rangeOf(">1.0.0 <=1.9.0 1.2.x"), "1020000..1029999");
        due("3: all rows and all parts", Make.rangeOf("*|1.x"), "0..99999999");
        due("3: a part beside all", Make.rangeOf("* 1.x *"), "1000000..1999999");
        VersionAlgebra x = new VersionAlgebra();
        due("3: the answer is the number of spans", Check.read(x, 11, "1.x|3.x|5.x"), 3);
        due("3: a range without versions has none", Check.read(x, 11, "<0.0.0-0"), 0);
        due("3: the slot has that range", Check.ends(x, 11), "");
        due("3: the buffer is emptied", x.account(7), 0);
        due("3: only that slot has changed", x.account(0), 1);
        Check.type(x, "1.x");
        due("3: no slot -1", Check.ask(() -> x.read(-1)), Check.INDEX);
        due("3: no slot 12", Check.ask(() -> x.read(12)), Check.INDEX);
        due("3: no slot of the least number", Check.ask(() -> x.read(Integer.MIN_VALUE)), Check.INDEX);
        due("3: no slot of the greatest number", Check.ask(() -> x.read(Integer.MAX_VALUE)), Check.INDEX);
        due("3: without the slot the buffer stays", x.account(7), 3);
        due("3: and can be read", Check.ask(() -> x.read(0)), 1);
        due("3: an empty text is a fault", Check.ask(() -> x.read(0)), Check.ARGUMENT);
    }

    private static void readComparisons() {
        due("3: less", Make.rangeOf("<1.2.3"), "0..1020398");
        due("3: at most", Make.rangeOf("<=1.2.3"), "0..1020399");
        due("3: greater", Make.rangeOf(">1.2.3"), "1020400..99999999");
        due("3: at least", Make.rangeOf(">=1.2.3"), "1020399..99999999");
        due("3: the same", Make.rangeOf("=1.2.3"), "1020399..1020399");
        due("3: a version alone", Make.rangeOf("1.2.3"), "1020399..1020399");
        due("3: a prerelease alone", Make.rangeOf("1.2.3-0"), "1020300..1020300");
        due("3: less than a prerelease", Make.rangeOf("<1.2.3-45"), "0..1020344");
        due("3: at most a prerelease", Make.rangeOf("<=1.2.3-98"), "0..1020398");
        due("3: greater than a prerelease", Make.rangeOf(">1.2.3-98"), "1020399..99999999");
        due("3: at least a prerelease", Make.rangeOf(">=0.0.0-0"), "0..99999999");
        due("3: less than the least one", Make.rangeOf("<0.0.0-0"), "");
        due("3: at most the least one", Make.rangeOf("<=0.0.0-0"), "0..0");
        due("3: greater than the greatest one", Make.rangeOf(">99.99.99"), "");
        due("3: at least the greatest one", Make.rangeOf(">=99.99.99"), "99999999..99999999");
        due("3: at most the greatest one", Make.rangeOf("<=99.99.99"), "0..99999999");
        due("3: numbers of two digits", Make.rangeOf("10.20.30-40"), "10203040..10203040");
    }

    private static void readCaretsAndTildes() {
        due("3: a caret with a major number", Make.rangeOf("^1.2.3"), "1020399..1999999");
        due("3: a caret with a minor number", Make.rangeOf("^0.2.3"), "20399..29999");
        due("3: a caret with a patch number", Make.rangeOf("^0.0.3"), "399..399");
        due("3: a caret of zeros", Make.rangeOf("^0.0.0"), "99..99");
        due("3: a caret of a prerelease of zeros", Make.rangeOf("^0.0.0-7"), "7..99");
        due("3: a caret of a prerelease", Make.rangeOf("^1.2.3-4"), "1020304..1999999");
        due("3: a caret of a patch's prerelease", Make.rangeOf("^0.0.3-4"), "304..399");
        due("3: a caret with a patch number 99", Make.rangeOf("^0.0.99"), "9999..9999");
        due("3: its prerelease", Make.rangeOf("^0.0.99-0"), "9900..9999");
        due("3: a caret with a minor number 99", Make.rangeOf("^0.99.5"), "990599..999999");
        due("3: a caret with a major number 99", Make.rangeOf("^99.0.0-0"), "99000000..99999999");
        due("3: a caret of the greatest one", Make.rangeOf("^99.99.99"), "99999999..99999999");
        due("3: a caret of a major number alone", Make.rangeOf("^2.0.0"), "2000099..2999999");
        due("3: a tilde", Make.rangeOf("~1.2.3"), "1020399..1029999");
        due("3: a tilde of zeros", Make.rangeOf("~0.0.0"), "99..9999");
        due("3: a tilde of a prerelease", Make.rangeOf("~1.2.3-4"), "1020304..1029999");
        due("3: a tilde with a minor number 99", Make.rangeOf("~1.99.1"), "1990199..1999999");
        due("3: a tilde with two numbers 99", Make.rangeOf("~99.99.0"), "99990099..99999999");
    }

    private static void readSeries() {
        due("3: all versions", Make.rangeOf("*"), "0..99999999");
        due("3: a major number", Make.rangeOf("1.x"), "1000000..1999999");
        due("3: the major number 0", Make.rangeOf("0.x"), "0..999999");
        due("3: the major number 99", Make.rangeOf("99.x"), "99000000..99999999");
        due("3: a minor number", Make.rangeOf("1.2.x"), "1020000..1029999");
        due("3: the minor number 0", Make.rangeOf("0.0.x"), "0..9999");
        due("3: the minor number 99", Make.rangeOf("99.99.x"), "99990000..99999999");
    }

    private static void readFaults() {
        String[] texts = {"", "x", "|", " ", "1", "1.", "1.0", "1.0.", "1.x.0", "1.2.x.3", "1.2.3.4", "1.2.3-", "1.2.3-x",
            "01.0.0", "1.00.0", "1.0.01", "1.0.0-01", "100.0.0", "1.100.0", "1.0.100", "1.0.0-100", "1.x-1", "-1",
            "1.0.0 ", "1.0.0|", "1.0.0  1.0.0", "1.0.0||*", "1.0.0 |*", "1.0.0| *", " 1.0.0", "< 1.0.0", "==1.0.0",
            "=<1.0.0", "=>1.0.0", "<<1.0.0", ">>1.0.0", "<=>1.0.0", "^=1.0.0", "~=1.0.0", "^~1.0.0", "<", "<=", "^1.x",
            "~1.2.x", "=1.x", "<1.x", ">=1.2.x", "*.x", "**", "=*", "x.x", "1.X", "1.*", "1.2.*", "1,2", "1.2.3*",
            "1.2.3<2.0.0", "1.2.3-4-5", "1.0.0+1", "v1.0.0", "1.x|2.x|3"};
        Object[] faults = {0, 0, 0, 0, 1, 2, 3, 4, 3, 5, 5, 6, 6,
            1, 3, 5, 7, 2, 4, 6, 8, 3, 0,
            6, 6, 6, 6, 6, 6, 0, 1, 1,
            1, 1, 1, 1, 2, 1, 1, 1, 1, 2, 3,
            5, 3, 3, 6, 1, 1, 1, 0, 2, 2, 4, 1, 5,
            5, 7, 5, 0, 9};
        for (int i = 0; i < texts.length; i++) {
            due("3: the fault of \"" + texts[i] + "\"", Make.faultOf(texts[i]), faults[i]);
        }
        VersionAlgebra x = Make.with("1.x");
        due("3: a fault throws", Check.read(x, 0, "2.y"), Check.ARGUMENT);
        due("3: a fault empties the buffer", x.account(7), 0);
        due("3: a fault leaves the slot", Check.ends(x, 0), "1000000..1999999");
        due("3: a fault is no refusal", Check.ask(() -> x.refusal()), Check.NO_ELEMENT);
        due("3: a fault comes ahead of a refusal", Check.read(x, 0, "1.0.0-99 "), Check.ARGUMENT);
        due("3: no reason is kept then", Check.ask(() -> x.refusal()), Check.NO_ELEMENT);
    }

    private static void readRefusals() {
        VersionAlgebra x = Make.with("1.x");
        due("3: a prerelease 99", Check.read(x, 0, "=1.0.0-99"), Check.REFUSED);
        due("3: its reason", x.refusal(), 2);
        due("3: it empties the buffer", x.account(7), 0);
        due("3: it leaves the slot", Check.ends(x, 0), "1000000..1999999");
        due("3: it is no fault", x.faultPosition(), -1);
        due("3: it is no change", x.undo(), 0);
        due("3: a prerelease 99 in a later row", Check.read(x, 0, "*|<2.0.0 ~1.0.0-99"), Check.REFUSED);
        due("3: one ahead of others", Check.read(x, 0, "^1.0.0-99 1.0.0-5|1.0.0-6"), Check.REFUSED);
        due("3: one in a row without versions", Check.read(x, 0, "1.x 2.x <3.0.0-99"), Check.REFUSED);
        due("3: a prerelease 98 is none", Check.read(x, 0, "=1.0.0-98"), 1);
        due("3: other numbers 99 are none", Check.read(x, 0, "=99.99.99"), 1);
        due("3: the most spans that a text can have",
                Check.read(x, 0, "0.x|2.x|4.x|6.x|8.x|10.x|12.x|14.x|16.x|18.x|20.x|22.x|24.x"), 13);
    }

    private static void evaluateOperations() {
        VersionAlgebra x = new VersionAlgebra();
        x.put(0, 100, 200);
        x.put(1, 150, 300);
        x.put(2, 201, 210);
        x.put(10, 0, 50);
        x.put(11, LAST, LAST);
        String[] texts = {"0", "0+1", "0&1", "0-1", "1-0", "!0", "!!0", "0+2", "0&2", "0-2", "0-0", "!10", "!11", "!(0+1)",
            "10+11", "0-1&1", "0&1-1+0", "0+1&2", "(0+1)&2", "0-1-2", "0-(1-2)", "0-1+1", "0-(1+1)", "!0&1", "!(0&1)&1",
            "1&!0", "1-!0", "((0))", "(0+2)-(1-0)", "!0+0", "!(!0+0)", "0+1+2+10+11", "1-2-0"};
        String[] dues = {"100..200", "100..300", "150..200", "100..149", "201..300", "0..99 201..99999999", "100..200",
            "100..210", "", "100..200", "", "51..99999999", "0..99999998", "0..99 301..99999999",
            "0..50 99999999..99999999", "", "100..200", "100..210", "201..210", "100..149", "100..149", "100..300", "100..149",
            "201..300", "201..300",
            "201..300", "150..200", "100..200", "100..200", "0..99999999", "", "0..50 100..300 99999999..99999999",
            "211..300"};
        for (int i = 0; i < texts.length; i++) {
            Object answer = Check.evaluate(x, 5, texts[i]);
            due("4: " + texts[i], Check.ends(x, 5), dues[i]);
            due("4: spans of " + texts[i], answer, dues[i].isEmpty() ? 0 : dues[i].split(" ").length);
            due("4: the buffer behind " + texts[i], x.account(7), 0);
        }
        due("4: into a slot of its own", Check.evaluate(x, 0, "!0"), 2);
        due("4: that slot then", Check.ends(x, 0), "0..99 201..99999999");
        Check.type(x, "0");
        due("4: no slot -1", Check.ask(() -> x.evaluate(-1)), Check.INDEX);
        due("4: no slot 12", Check.ask(() -> x.evaluate(12)), Check.INDEX);
        due("4: without the slot the buffer stays", x.account(7), 1);
    }

    private static void evaluateFaults() {
        String[] texts = {"", "+", "&", "-", ")", "0+", "0-", "0&", "0++1", "0&&1", "00", "01", "100", "0)", "(0", "(0))",
            "()", "(", "!", "!+", "0!", "0(1)", "(0)1", "0 +1", " 0", "0+ 1", "0 ", "x", "0+x", "1.x", "0|1", "(0+)", "10+123",
            "0!1", "(0)(1)", "!(", "(!0"};
        Object[] faults = {0, 0, 0, 0, 0, 2, 2, 2, 2, 2, 1, 1, 2, 1, 2, 3, 1, 1, 1, 1, 1, 1, 3, 1, 0, 2, 1, 0, 2, 1, 1, 3, 5,
            1, 3, 2, 3};
        for (int i = 0; i < texts.length; i++) {
            due("4: the fault of \"" + texts[i] + "\"", Make.faultOfExpression(texts[i]), faults[i]);
        }
        VersionAlgebra x = Make.with("1.x");
        due("4: a fault comes ahead of a failure", Check.evaluate(x, 0, "9+9+"), Check.ARGUMENT);
        due("4: it is no failure", Check.chain(x), Check.STATE);
        due("4: it is no refusal", Check.ask(() -> x.refusal()), Check.NO_ELEMENT);
        due("4: it leaves the slot", Check.ends(x, 0), "1000000..1999999");
        due("4: it empties the buffer", x.account(7), 0);
    }

    private static void evaluateOpenSigns() {
        VersionAlgebra x = Make.with("1.x");
        due("4: 8 signs ! are open", Check.evaluate(x, 1, "!!!!!!!!0"), 1);
        due("4: 8 signs ( are open", Check.evaluate(x, 1, "((((((((0))))))))"), 1);
        due("4: 8 signs of both are open", Check.evaluate(x, 1, "!(!(!(!(0))))"), 1);
        due("4: 9 signs !", Make.faultOfExpression("!!!!!!!!!0"), 8);
        due("4: 9 signs (", Make.faultOfExpression("(((((((((0)))))))))"), 8);
        due("4: 9 signs of both", Make.faultOfExpression("(!(!(!(!(0))))"), 8);
        due("4: a ! is not open behind its factor", Check.evaluate(x, 1, "!!!!!!!!0&!!!!!!!!0+!!!!!!!!0"), 1);
        due("4: nor a (", Check.evaluate(x, 1, "((((((((0))))))))+((((((((0))))))))"), 1);
        due("4: a ! is open until its ) comes", Make.faultOfExpression("!(0+!(0+!(0+!(0+!0))))"), 16);
        due("4: within them 8 can be open", Check.evaluate(x, 1, "!(0+!(0+!(0&((0))-!0)))"), 2);
        due("4: only those that are open count", Check.evaluate(x, 1, "((((((((0)))))))&!0)-!!!!!!!!0"), 0);
        due("4: behind a ) one more is a fault", Make.faultOfExpression("((((((((0)+(0)+((0"), 16);
    }

    private static void evaluateRefusals() {
        VersionAlgebra x = Make.with("1.x");
        due("4: an empty slot", Check.evaluate(x, 0, "0+5"), Check.REFUSED);
        due("4: its reason", x.refusal(), 1);
        due("4: it empties the buffer", x.account(7), 0);
        due("4: it leaves the slot", Check.ends(x, 0), "1000000..1999999");
        due("4: it is no fault", x.faultPosition(), -1);
        due("4: a slot that does not exist", Check.evaluate(x, 0, "0&12"), Check.REFUSED);
        due("4: a slot 99", Check.evaluate(x, 0, "99"), Check.REFUSED);
        due("4: an empty slot alone", Check.evaluate(x, 0, "11"), Check.REFUSED);
        Make.putSpans(x, 1, 1001, 16);
        due("4: 16 spans", x.spans(1), 16);
        Make.putSpans(x, 2, 2001, 16);
        x.put(3, 5000, 5000);
        x.put(4, 5001, LAST);
        due("4: 17 spans", Check.evaluate(x, 0, "1+3"), Check.REFUSED);
        due("4: its reason", x.refusal(), 3);
        due("4: it leaves the slot", Check.ends(x, 0), "1000000..1999999");
        due("4: 32 spans", Check.evaluate(x, 0, "1+2"), Check.REFUSED);
        due("4: 17 spans in between", Check.evaluate(x, 0, "(1+3)&3"), Check.REFUSED);
        due("4: 16 spans with one that touches the last", Check.evaluate(x, 0, "1&!2"), Check.REFUSED);
        due("4: the other way round 16 spans", Check.evaluate(x, 0, "1-2"), 16);
        due("4: the opposite of 16 spans", Check.evaluate(x, 0, "!1"), Check.REFUSED);
        due("4: the opposite of 15 spans has 16", Check.evaluate(x, 5, "!(1-6)") + " " + x.refusal(), Check.REFUSED + " 1");
        x.put(6, 1001, 1001);
        due("4: now it has", Check.evaluate(x, 5, "!(1-6)"), 16);
        due("4: and its opposite 15", Check.evaluate(x, 5, "!5"), 15);
        due("4: the first failure counts", Check.evaluate(x, 0, "(1+3)+9") + " " + x.refusal(), Check.REFUSED + " 3");
        due("4: from the left to the right", Check.evaluate(x, 0, "9+(1+3)") + " " + x.refusal(), Check.REFUSED + " 1");
        x.put(7, 1002, 1002);
        due("4: a span that fills a gap", Check.evaluate(x, 0, "1+7"), 15);
    }

    private static void faultPosition() {
        VersionAlgebra x = new VersionAlgebra();
        due("5: no call", x.faultPosition(), -1);
        Check.type(x, "1.2");
        due("5: a call without a slot", Check.ask(() -> x.read(12)), Check.INDEX);
        due("5: does not count", x.faultPosition(), -1);
        due("5: nor of evaluate", Check.ask(() -> x.evaluate(-1)) + " " + x.faultPosition(), Check.INDEX + " -1");
        due("5: a fault", Check.ask(() -> x.read(0)), Check.ARGUMENT);
        due("5: its position", x.faultPosition(), 3);
        due("5: a call without a slot leaves it", Check.ask(() -> x.evaluate(12)) + " " + x.faultPosition(),
                Check.INDEX + " 3");
        due("5: other calls leave it", x.put(0, 1, 2) + " " + x.faultPosition(), "2 3");
        due("5: undo leaves it", x.undo() + " " + x.faultPosition(), "0 3");
        due("5: a text without a fault", Check.read(x, 0, "1.x"), 1);
        due("5: makes it -1", x.faultPosition(), -1);
        due("5: a fault of an expression", Check.evaluate(x, 0, "0+&"), Check.ARGUMENT);
        due("5: its position", x.faultPosition(), 2);
        due("5: a refused call has no fault", Check.evaluate(x, 0, "0+7"), Check.REFUSED);
        due("5: and makes it -1", x.faultPosition(), -1);
        due("5: the first character", Check.read(x, 0, "?") + " " + x.faultPosition(), Check.ARGUMENT + " 0");
        due("5: an expression without a fault makes it -1", Check.evaluate(x, 0, "0") + " " + x.faultPosition(), "1 -1");
        due("5: save and restore leave it", Check.read(x, 0, "1.x.") + " " + x.faultPosition(), Check.ARGUMENT + " 3");
        x.save();
        Check.read(x, 0, "");
        x.restore();
        due("5: the latest one", x.faultPosition(), 0);
        String full = "1.x|1.x|1.x|1.x|1.x|1.x|1.x|1.x|1.x|1.x|1.x|1.x|1.x|1.x|1.x|";
        due("5: the length of a full buffer", Check.read(x, 0, full) + " " + x.faultPosition(), Check.ARGUMENT + " 60");
    }

    private static void put() {
        VersionAlgebra x = new VersionAlgebra();
        due("6: a span", x.put(3, 100, 200), 101);
        due("6: its ends", Check.ends(x, 3), "100..200");
        due("6: one version", x.put(3, 7, 7), 1);
        due("6: in place of the range", Check.ends(x, 3), "7..7");
        due("6: all versions", x.put(0, 0, LAST), 100000000);
        due("6: the least one", x.put(11, 0, 0), 1);
        due("6: the greatest one", x.put(11, LAST, LAST), 1);
        due("6: no slot -1", Check.ask(() -> x.put(-1, 5, 4)), Check.INDEX);
        due("6: no slot 12", Check.ask(() -> x.put(12, 0, 0)), Check.INDEX);
        due("6: the slot comes first", Check.ask(() -> x.put(12, -1, 0)), Check.INDEX);
        due("6: no version -1", Check.ask(() -> x.put(3, -1, 0)), Check.ARGUMENT);
        due("6: no last version -1", Check.ask(() -> x.put(3, 0, -1)), Check.ARGUMENT);
        due("6: no last version 100000000", Check.ask(() -> x.put(3, 0, LAST + 1)), Check.ARGUMENT);
        due("6: no first version 100000000", Check.ask(() -> x.put(3, LAST + 1, LAST + 1)), Check.ARGUMENT);
        due("6: the least number", Check.ask(() -> x.put(3, Integer.MIN_VALUE, 0)), Check.ARGUMENT);
        due("6: the greatest number", Check.ask(() -> x.put(3, 0, Integer.MAX_VALUE)), Check.ARGUMENT);
        due("6: the last one less", Check.ask(() -> x.put(3, 5, 4)), Check.ARGUMENT);
        due("6: the slot is as before", Check.ends(x, 3), "7..7");
        due("6: those were no changes", x.undo(), 4);
    }

    private static void clear() {
        VersionAlgebra x = Make.with("1.x", "<0.0.0-0");
        due("7: a slot with a range", x.clear(0), true);
        due("7: is empty then", Check.ends(x, 0), Check.NO_ELEMENT);
        due("7: has none then", x.clear(0), false);
        due("7: a range without versions is one", x.clear(1), true);
        due("7: no slot has one", x.account(0), 0);
        due("7: each one was a change", x.undo(), 4);
        due("7: no slot -1", Check.ask(() -> x.clear(-1)), Check.INDEX);
        due("7: no slot 12", Check.ask(() -> x.clear(12)), Check.INDEX);
    }

    private static void copy() {
        VersionAlgebra x = Make.with("1.x|3.x", "5.x");
        due("8: to an empty slot", x.copy(0, 11), 3);
        due("8: the copy", Check.ends(x, 11), "1000000..1999999 3000000..3999999");
        due("8: to a slot with a range", x.copy(1, 0), 3);
        due("8: that slot", Check.ends(x, 0), "5000000..5999999");
        due("8: the copy stays", Check.ends(x, 11), "1000000..1999999 3000000..3999999");
        due("8: emptiness", x.copy(5, 11), 2);
        due("8: the slot is empty", Check.ends(x, 11), Check.NO_ELEMENT);
        due("8: to itself", x.copy(1, 1), 2);
        due("8: an empty slot to itself", x.copy(6, 6), 2);
        due("8: each one was a change", x.undo(), 6);
        x.put(0, 1, 2);
        due("8: a later change of the one leaves the other", Check.ends(x, 1), "5000000..5999999");
        due("8: no slot -1", Check.ask(() -> x.copy(-1, 0)), Check.INDEX);
        due("8: no slot 12", Check.ask(() -> x.copy(12, 0)), Check.INDEX);
        due("8: no other slot -1", Check.ask(() -> x.copy(0, -1)), Check.INDEX);
        due("8: no other slot 12", Check.ask(() -> x.copy(0, 12)), Check.INDEX);
    }

    private static void spans() {
        VersionAlgebra x = Make.with("1.x|3.x|5.x", "*", "<0.0.0-0", "1.x|2.x");
        due("9: three", x.spans(0), 3);
        due("9: one", x.spans(1), 1);
        due("9: none", x.spans(2), 0);
        due("9: two that touch are one", x.spans(3), 1);
        due("9: an empty slot", Check.ask(() -> x.spans(4)), Check.NO_ELEMENT);
        due("9: no slot -1", Check.ask(() -> x.spans(-1)), Check.INDEX);
        due("9: no slot 12", Check.ask(() -> x.spans(12)), Check.INDEX);
    }

    private static void end() {
        VersionAlgebra x = Make.with("1.x|3.x|5.x", "<0.0.0-0");
        due("10: the first one of the first span", x.end(0, 0, false), 1000000);
        due("10: the last one of the first span", x.end(0, 0, true), 1999999);
        due("10: the first one of the last span", x.end(0, 2, false), 5000000);
        due("10: the last one of the last span", x.end(0, 2, true), 5999999);
        due("10: no span 3", Check.ask(() -> x.end(0, 3, true)), Check.NO_ELEMENT);
        due("10: no span -1", Check.ask(() -> x.end(0, -1, false)), Check.NO_ELEMENT);
        due("10: no span of the greatest number", Check.ask(() -> x.end(0, Integer.MAX_VALUE, true)), Check.NO_ELEMENT);
        due("10: no span of the least number", Check.ask(() -> x.end(0, Integer.MIN_VALUE, true)), Check.NO_ELEMENT);
        due("10: no span of 2 to the 31st", Check.ask(() -> x.end(0, 1 << 30, false)), Check.NO_ELEMENT);
        due("10: a range without versions", Check.ask(() -> x.end(1, 0, false)), Check.NO_ELEMENT);
        due("10: an empty slot", Check.ask(() -> x.end(2, 0, true)), Check.NO_ELEMENT);
        due("10: no slot -1", Check.ask(() -> x.end(-1, 0, true)), Check.INDEX);
        due("10: no slot 12", Check.ask(() -> x.end(12, -1, true)), Check.INDEX);
    }

    private static void size() {
        VersionAlgebra x = Make.with("*", "<0.0.0-0", "1.0.x|=2.0.0", "1.2.3");
        due("11: all", x.size(0), 100000000);
        due("11: none", x.size(1), 0);
        due("11: two spans", x.size(2), 10001);
        due("11: one", x.size(3), 1);
        due("11: an empty slot", Check.ask(() -> x.size(4)), Check.NO_ELEMENT);
        due("11: no slot -1", Check.ask(() -> x.size(-1)), Check.INDEX);
        due("11: no slot 12", Check.ask(() -> x.size(12)), Check.INDEX);
    }

    private static void contains() {
        VersionAlgebra x = Make.with("1.x|>=3.0.0 <=3.0.1", "<0.0.0-0", "*");
        int[] versions = {0, 999999, 1000000, 1500000, 1999999, 2000000, 3000098, 3000099, 3000100, 3000199, 3000200, LAST};
        boolean[] dues = {false, false, true, true, true, false, false, true, true, true, false, false};
        for (int i = 0; i < versions.length; i++) {
            due("12: " + versions[i], x.contains(0, versions[i], false), dues[i]);
        }
        due("12: nothing belongs to none", x.contains(1, 0, false), false);
        due("12: the least one belongs to all", x.contains(2, 0, false), true);
        due("12: the greatest one belongs to all", x.contains(2, LAST, false), true);
        due("12: no version -1", Check.ask(() -> x.contains(0, -1, false)), Check.ARGUMENT);
        due("12: no version 100000000", Check.ask(() -> x.contains(0, LAST + 1, true)), Check.ARGUMENT);
        due("12: the number comes ahead of the empty slot", Check.ask(() -> x.contains(5, -1, true)), Check.ARGUMENT);
        due("12: an empty slot", Check.ask(() -> x.contains(5, 0, true)), Check.NO_ELEMENT);
        due("12: no slot -1", Check.ask(() -> x.contains(-1, -1, true)), Check.INDEX);
        due("12: no slot 12", Check.ask(() -> x.contains(12, 0, true)), Check.INDEX);
    }

    private static void containsStrictly() {
        VersionAlgebra x = Make.with(">=1.0.0-5 <=2.0.0-7|>=3.0.0 <=4.0.0-3", "*", "5.0.0-1|>=6.0.0-1 <=7.0.0");
        Check.evaluate(x, 0, "0+2");
        int[] versions = {1000004, 1000005, 1000098, 1000099, 1000105, 1500000, 1500099, 2000000, 2000007, 2000008, 2000099,
            3000098, 3000099, 3000100, 3999998, 4000000, 4000003, 4000004, 5000001, 5000000, 6000050, 6000100, 7000098,
            7000099, 6999999};
        boolean[] dues = {false, true, true, true, false, false, true, true, true, false, false,
            false, true, false, false, true, true, false, true, false, true, false, false,
            true, true};
        for (int i = 0; i < versions.length; i++) {
            due("12: strictly " + versions[i], x.contains(0, versions[i], true), dues[i]);
        }
        due("12: the least one of all belongs strictly", x.contains(1, 0, true), true);
        due("12: so do those with the same numbers", x.contains(1, 98, true), true);
        due("12: but no other prerelease", x.contains(1, 100, true), false);
        due("12: the greatest one is no prerelease", x.contains(1, LAST - 1, true), false);
        due("12: and belongs strictly", x.contains(1, LAST, true), true);
        VersionAlgebra y = Make.with("<=1.0.0-3|>=1.0.0-5 <=1.5.0|>=2.0.0 <=3.0.0");
        due("12: the ends of another span do not count", y.contains(0, 2000100, true), false);
        due("12: those of its own do", y.contains(0, 1000001, true), true);
        VersionAlgebra z = Make.with("1.x|2.0.0-0");
        due("12: spans that touch are one", z.contains(0, 1999950, true), false);
        due("12: with the ends of that one", z.contains(0, 1000050, true), true);
    }

    private static void from() {
        VersionAlgebra x = Make.with("1.x|3.x", "<0.0.0-0");
        due("13: ahead of all", x.from(0, 0), 1000000);
        due("13: the first one", x.from(0, 1000000), 1000000);
        due("13: within", x.from(0, 1234567), 1234567);
        due("13: the last one", x.from(0, 1999999), 1999999);
        due("13: in a gap", x.from(0, 2000000), 3000000);
        due("13: the last one of all", x.from(0, 3999999), 3999999);
        due("13: behind all", Check.ask(() -> x.from(0, 4000000)), Check.NO_ELEMENT);
        due("13: the greatest one", Check.ask(() -> x.from(0, LAST)), Check.NO_ELEMENT);
        due("13: of none", Check.ask(() -> x.from(1, 0)), Check.NO_ELEMENT);
        due("13: of an empty slot", Check.ask(() -> x.from(2, 0)), Check.NO_ELEMENT);
        due("13: no version -1", Check.ask(() -> x.from(2, -1)), Check.ARGUMENT);
        due("13: no version 100000000", Check.ask(() -> x.from(0, LAST + 1)), Check.ARGUMENT);
        due("13: no slot -1", Check.ask(() -> x.from(-1, -1)), Check.INDEX);
        due("13: no slot 12", Check.ask(() -> x.from(12, 0)), Check.INDEX);
        x.put(2, 0, LAST);
        due("13: of all the least one", x.from(2, 0), 0);
        due("13: of all the greatest one", x.from(2, LAST), LAST);
    }

    private static void relation() {
        VersionAlgebra x = Make.with("1.x", "1.2.x", "2.x", "<0.0.0-0", "1.9.x|2.x", "*", "1.x|3.x");
        due("14: itself", x.relation(0, 0), 6);
        due("14: the greater one", x.relation(0, 1), 4);
        due("14: the lesser one", x.relation(1, 0), 2);
        due("14: nothing in common", x.relation(0, 2), 1);
        due("14: some in common", x.relation(0, 4), 0);
        due("14: none and another one", x.relation(3, 0), 3);
        due("14: another one and none", x.relation(0, 3), 5);
        due("14: none and none", x.relation(3, 3), 7);
        due("14: all and another one", x.relation(5, 6), 4);
        due("14: another one and all", x.relation(6, 5), 2);
        due("14: all and none", x.relation(5, 3), 5);
        due("14: all and all", x.relation(5, 5), 6);
        due("14: one of two spans", x.relation(0, 6), 2);
        x.put(7, 1000000, 1000000);
        x.put(8, 1000001, 1000001);
        due("14: versions beside one another", x.relation(7, 8), 1);
        due("14: the same version", x.copy(7, 8) + " " + x.relation(7, 8), "9 6");
        due("14: an empty slot", Check.ask(() -> x.relation(9, 0)), Check.NO_ELEMENT);
        due("14: another empty slot", Check.ask(() -> x.relation(0, 9)), Check.NO_ELEMENT);
        due("14: no slot -1", Check.ask(() -> x.relation(-1, 9)), Check.INDEX);
        due("14: no other slot 12", Check.ask(() -> x.relation(9, 12)), Check.INDEX);
    }

    private static void agrees() {
        VersionAlgebra x = Make.with("1.x|3.x", "1.5.x|2.x", "<0.0.0-0", "*");
        String[] signs = {"+", "&", "-"};
        for (int operation = 0; operation < 3; operation++) {
            Check.evaluate(x, 5, "0" + signs[operation] + "1");
            for (int asked = 0; asked < 3; asked++) {
                due("15: the result of " + operation + " as that of " + asked, Check.evaluate(x, 6, "5") + " "
                        + x.agrees(6, 0, 1, asked), x.spans(5) + " " + (asked == operation));
            }
        }
        due("15: the other way round", x.agrees(5, 1, 0, 2), false);
        due("15: none, none, none", x.agrees(2, 2, 2, 0), true);
        due("15: all of all and none", x.agrees(3, 3, 2, 0), true);
        due("15: none of all and none", x.agrees(2, 3, 2, 1), true);
        due("15: all less none", x.agrees(3, 3, 2, 2), true);
        due("15: none less all", x.agrees(2, 2, 3, 2), true);
        due("15: all less all is not all", x.agrees(3, 3, 3, 2), false);
        due("15: none is not all", x.agrees(2, 3, 3, 1), false);
        due("15: all is not none", x.agrees(3, 2, 2, 0), false);
        x.put(7, 100, 200);
        x.put(8, 300, 400);
        x.put(9, 100, 400);
        due("15: what is between them does not belong", x.agrees(9, 7, 8, 0), false);
        x.put(9, 100, 200);
        due("15: a whole span is missing", x.agrees(9, 7, 8, 0), false);
        x.put(9, 100, 199);
        due("15: the last one is missing", x.agrees(9, 7, 7, 1), false);
        x.put(9, 101, 200);
        due("15: the first one is missing", x.agrees(9, 7, 7, 1), false);
        x.put(9, 99, 200);
        due("15: one ahead is too much", x.agrees(9, 7, 7, 1), false);
        x.put(9, 100, 201);
        due("15: one behind is too much", x.agrees(9, 7, 7, 1), false);
        due("15: the same one agrees", x.agrees(7, 7, 7, 1), true);
        x.publish(150);
        x.publish(250);
        due("15: published ones that agree", x.agrees(7, 7, 7, 1), true);
        x.put(9, 100, 400);
        due("15: a published one that does not belong", x.agrees(9, 7, 8, 0), false);
        due("15: no operation 3", Check.ask(() -> x.agrees(10, 0, 1, 3)), Check.ARGUMENT);
        due("15: no operation -1", Check.ask(() -> x.agrees(0, 0, 1, -1)), Check.ARGUMENT);
        due("15: an empty result", Check.ask(() -> x.agrees(10, 0, 1, 0)), Check.NO_ELEMENT);
        due("15: an empty slot", Check.ask(() -> x.agrees(0, 10, 1, 0)), Check.NO_ELEMENT);
        due("15: another empty slot", Check.ask(() -> x.agrees(0, 0, 10, 0)), Check.NO_ELEMENT);
        due("15: no slot -1", Check.ask(() -> x.agrees(-1, 0, 0, 3)), Check.INDEX);
        due("15: no one slot 12", Check.ask(() -> x.agrees(0, 12, 0, 3)), Check.INDEX);
        due("15: no other slot 12", Check.ask(() -> x.agrees(10, 0, 12, 0)), Check.INDEX);
    }

    private static void limit() {
        VersionAlgebra x = new VersionAlgebra();
        int[] versions = {0, 99, 100, 199, 9999, 10000, 10099, 999999, 990099, 1000000, 1020399, 1990199, 98999999, 99000000,
            LAST};
        int[] carets = {99, 99, 199, 199, 9999, 19999, 19999, 999999, 999999, 1999999, 1999999, 1999999, 98999999, LAST, LAST};
        int[] tildes = {9999, 9999, 9999, 9999, 9999, 19999, 19999, 999999, 999999, 1009999, 1029999, 1999999, 98999999,
            99009999, LAST};
        for (int i = 0; i < versions.length; i++) {
            due("16: a caret of " + versions[i], x.limit(versions[i], true), carets[i]);
            due("16: a tilde of " + versions[i], x.limit(versions[i], false), tildes[i]);
        }
        due("16: no version -1", Check.ask(() -> x.limit(-1, true)), Check.ARGUMENT);
        due("16: no version 100000000", Check.ask(() -> x.limit(LAST + 1, false)), Check.ARGUMENT);
        due("16: no version of the greatest number", Check.ask(() -> x.limit(Integer.MAX_VALUE, true)), Check.ARGUMENT);
    }

    private static final String[] CANONICAL_SOURCES = {"<0.0.0-0", "*", "1.2.3", "0.0.0-0", "99.99.99", "<=1.2.3",
        ">=1.2.3-4", ">=1.2.3 <=1.2.4-0", "<1.0.0|>2.0.0", "1.x|3.0.0|99.x", ">=0.0.0", "<99.99.99",
        "0.0.0-0|2.0.0-10|99.99.99", "<=0.0.0-1", ">=99.99.99-98", "10.20.30-40", "1.0.0 2.0.0"};
    private static final String[] CANONICAL_TEXTS = {"none", "*", "=1.2.3", "=0.0.0-0", "=99.99.99", "<=1.2.3",
        ">=1.2.3-4", ">=1.2.3 <=1.2.4-0", "<=1.0.0-98|>=2.0.1-0", ">=1.0.0-0 <=1.99.99|=3.0.0|>=99.0.0-0", ">=0.0.0",
        "<=99.99.99-98", "=0.0.0-0|=2.0.0-10|=99.99.99", "<=0.0.0-1", ">=99.99.99-98", "=10.20.30-40", "none"};

    private static void textLength() {
        for (int i = 0; i < CANONICAL_SOURCES.length; i++) {
            VersionAlgebra x = Make.with(CANONICAL_SOURCES[i]);
            due("17: of " + CANONICAL_SOURCES[i], x.textLength(0), CANONICAL_TEXTS[i].length());
        }
        VersionAlgebra x = new VersionAlgebra();
        x.put(0, 90909000, 90909001);
        for (int span = 1; span < 16; span++) {
            x.put(1, 90909000 + 4 * span, 90909001 + 4 * span);
            Check.type(x, "0+1").evaluate(0);
        }
        due("17: a long text", x.textLength(0), 3 * 25 + 13 * 27 + 15);
        due("17: an empty slot", Check.ask(() -> x.textLength(5)), Check.NO_ELEMENT);
        due("17: no slot -1", Check.ask(() -> x.textLength(-1)), Check.INDEX);
        due("17: no slot 12", Check.ask(() -> x.textLength(12)), Check.INDEX);
        due("17: the buffer is not touched", Check.type(x, "0+").account(7) + " " + x.textLength(0) + " " + x.account(7),
                "2 441 2");
    }

    private static void text() {
        for (int i = 0; i < CANONICAL_SOURCES.length; i++) {
            VersionAlgebra x = Make.with(CANONICAL_SOURCES[i]);
            due("18: of " + CANONICAL_SOURCES[i], Check.text(x, 0), CANONICAL_TEXTS[i]);
        }
        VersionAlgebra x = Make.with("1.x", "<0.0.0-0");
        due("18: the first character", x.text(0, 0), '>');
        due("18: the last character", x.text(0, x.textLength(0) - 1), '9');
        due("18: no index behind it", Check.ask(() -> x.text(0, x.textLength(0))), Check.NO_ELEMENT);
        due("18: no index -1", Check.ask(() -> x.text(0, -1)), Check.NO_ELEMENT);
        due("18: no index of the greatest number", Check.ask(() -> x.text(0, Integer.MAX_VALUE)), Check.NO_ELEMENT);
        due("18: behind none", Check.ask(() -> x.text(1, 4)), Check.NO_ELEMENT);
        due("18: an empty slot", Check.ask(() -> x.text(2, 0)), Check.NO_ELEMENT);
        due("18: no slot -1", Check.ask(() -> x.text(-1, -1)), Check.INDEX);
        due("18: no slot 12", Check.ask(() -> x.text(12, 0)), Check.INDEX);
    }

    private static void refusal() {
        VersionAlgebra x = new VersionAlgebra();
        due("19: none refused", Check.ask(() -> x.refusal()), Check.NO_ELEMENT);
        Check.read(x, 0, "1.x.");
        due("19: a fault is no refusal", Check.ask(() -> x.refusal()), Check.NO_ELEMENT);
        Check.evaluate(x, 0, "0");
        due("19: reason 1", x.refusal(), 1);
        Check.read(x, 0, "1.0.0-99");
        due("19: reason 2", x.refusal(), 2);
        Make.putSpans(x, 0, 1001, 16);
        due("19: successful calls leave it", x.refusal(), 2);
        Check.evaluate(x, 1, "!0");
        due("19: reason 3", x.refusal(), 3);
        for (int version = 0; version < 30; version++) {
            x.publish(version);
        }
        Check.ask(() -> x.publish(30));
        due("19: reason 4", x.refusal(), 4);
        Check.ask(() -> x.withdraw(30));
        due("19: reason 5", x.refusal(), 5);
        Check.ask(() -> x.publish(-1));
        Check.ask(() -> x.read(12));
        due("19: other exceptions leave it", x.refusal(), 5);
        x.save();
        Check.evaluate(x, 1, "9");
        x.undo();
        due("19: undo leaves it", x.refusal(), 1);
        x.restore();
        due("19: restore leaves it", x.refusal(), 1);
    }

    private static void causeAtSlots() {
        VersionAlgebra x = Make.with("1.x", "2.x", "1.2.x");
        String[] texts = {"9", "9+0", "0+9", "0+1+9", "9+1+0", "0+9+1", "0&9", "0-15", "9-0&1", "0-9&1", "0-1&9", "0+1&9",
            "9&1+0", "0+9&1", "!9", "!!9", "!(9)", "(9)", "((0+9))", "0+(1&!7)", "0-(1-(2-11))", "(0+1)&(2-9)", "!(0+!(1&99))",
            "0+1+2+0+12", "10+0", "0+(9)+1", "!0&!9", "!9&9", "0+!9-1", "(9+8)+7", "0+(8+7)"};
        String[] dues = {"0", "1 0", "1 2", "3 4", "3 1 0", "3 1 2", "1 2", "1 2", "3 1 0", "3 1 2", "3 4", "1 3 4",
            "3 1 0", "1 3 2", "0 1", "0 1 2", "0 2", "1", "3 4", "1 4 5 6", "1 4 7 8", "5 8 9", "0 3 4 7 8",
            "7 8", "2 0", "5 1 3", "2 3 4", "2 0 1", "1 4 2 3", "5 2 1", "1 4 3"};
        for (int i = 0; i < texts.length; i++) {
            due("20: " + texts[i] + " fails", Check.evaluate(x, 0, texts[i]), Check.REFUSED);
            due("20: the chain of " + texts[i], Check.chain(x), dues[i]);
            due("20: the reason of " + texts[i], x.refusal(), 1);
            int length = dues[i].split(" ").length;
            due("20: the length of " + texts[i], x.cause(-1), length);
            due("20: no position behind that of " + texts[i], Check.ask(() -> x.cause(length)), Check.NO_ELEMENT);
        }
        due("20: no index -2", Check.ask(() -> x.cause(-2)), Check.NO_ELEMENT);
        due("20: no index of the least number", Check.ask(() -> x.cause(Integer.MIN_VALUE)), Check.NO_ELEMENT);
        due("20: no index of the greatest number", Check.ask(() -> x.cause(Integer.MAX_VALUE)), Check.NO_ELEMENT);
    }

    private static void causeAtOperations() {
        VersionAlgebra x = new VersionAlgebra();
        Make.putSpans(x, 0, 1001, 16);
        Make.putSpans(x, 1, 2001, 16);
        x.put(2, 5000, 5000);
        x.put(3, 0, LAST);
        String[] texts = {"0+1", "!0", "0+2", "3-0", "3&(0+2)", "(0+2)&3", "0+2+9", "2+(0-1)+0+2", "!(2+0)", "!(2&0)+!1",
            "0+2-0+1", "2+0&3", "9+(0+1)", "(2&3)-!(3-(1&3))", "!!0", "!!!!!!!!0"};
        String[] dues = {"1", "0", "1", "1", "1 4", "5 2", "3 1", "9 7 1", "0 3", "6 7",
            "5 1", "1", "1 0", "5 6 9", "0 1", "0 1 2 3 4 5 6 7"};
        for (int i = 0; i < texts.length; i++) {
            due("20: " + texts[i] + " fails", Check.evaluate(x, 10, texts[i]), Check.REFUSED);
            due("20: the chain of " + texts[i], Check.chain(x), dues[i]);
        }
        due("20: the reason", x.refusal(), 3);
        VersionAlgebra y = new VersionAlgebra();
        Make.putSpans(y, 0, 1001, 16);
        String longest = "0+0+0+0+0+0+0+0+0+0+0+0+0+0+0+0+0+0+0+0+0+0+0+0+0+0+0+0+0+!0";
        due("20: a text of 60 characters", longest.length(), 60);
        due("20: fails at its end", Check.evaluate(y, 1, longest), Check.REFUSED);
        due("20: its chain", Check.chain(y), "57 58");
        due("20: the longest chain", Check.evaluate(y, 1, "9" + longest.substring(1)), Check.REFUSED);
        StringBuilder all = new StringBuilder();
        for (int position = 57; position > 0; position -= 2) {
            all.append(position).append(' ');
        }
        due("20: has all operations", Check.chain(y), all + "0");
    }

    private static void causeIsKept() {
        VersionAlgebra x = Make.with("1.x");
        due("20: none failed", Check.ask(() -> x.cause(-1)), Check.STATE);
        due("20: none failed, another index", Check.ask(() -> x.cause(-5)), Check.STATE);
        Check.evaluate(x, 0, "0+");
        due("20: a fault is no failure", Check.ask(() -> x.cause(0)), Check.STATE);
        Check.read(x, 0, "1.0.0-99");
        due("20: a refused text is no failure", Check.ask(() -> x.cause(0)), Check.STATE);
        Check.evaluate(x, 0, "0+0&5");
        due("20: the chain", Check.chain(x), "1 3 4");
        Check.evaluate(x, 0, "0+0");
        due("20: is kept by a successful one", Check.chain(x), "1 3 4");
        Check.evaluate(x, 0, "0+0+");
        Check.ask(() -> x.withdraw(5));
        Check.read(x, 0, "1.0.0-99");
        due("20: and by other refusals", Check.chain(x), "1 3 4");
        x.save();
        Check.evaluate(x, 0, "7");
        due("20: the latest one", Check.chain(x), "0");
        x.undo();
        due("20: is kept by undo", Check.chain(x), "0");
        x.restore();
        due("20: is kept by restore", Check.chain(x), "0");
    }

    private static void publish() {
        VersionAlgebra x = new VersionAlgebra();
        due("21: the first one", x.publish(500), 1);
        due("21: one ahead", x.publish(0), 2);
        due("21: one behind", x.publish(LAST), 3);
        due("21: one between", x.publish(300), 4);
        due("21: all of them", Check.published(x), "0 300 500 99999999");
        due("21: once more", Check.ask(() -> x.publish(300)), Check.REFUSED);
        due("21: the reason", x.refusal(), 5);
        due("21: nothing has changed", Check.published(x), "0 300 500 99999999");
        due("21: no version -1", Check.ask(() -> x.publish(-1)), Check.ARGUMENT);
        due("21: no version 100000000", Check.ask(() -> x.publish(LAST + 1)), Check.ARGUMENT);
        for (int count = 5; count <= 30; count++) {
            due("21: number " + count, x.publish(1000 + count), count);
        }
        due("21: one more", Check.ask(() -> x.publish(7)), Check.REFUSED);
        due("21: its reason", x.refusal(), 4);
        Check.ask(() -> x.withdraw(7));
        due("21: a published one", Check.ask(() -> x.publish(300)), Check.REFUSED);
        due("21: has the reason that comes first", x.refusal(), 4);
        due("21: no version comes ahead of that", Check.ask(() -> x.publish(-1)), Check.ARGUMENT);
        due("21: there are 30", x.account(3), 30);
        due("21: the refused ones are no changes", x.undo(), 7);
    }

    private static void withdraw() {
        VersionAlgebra x = new VersionAlgebra();
        for (int version : new int[] {500, 100, 300, 200, 400}) {
            x.publish(version);
        }
        due("22: one between", x.withdraw(300), 4);
        due("22: the others", Check.published(x), "100 200 400 500");
        due("22: the first one", x.withdraw(100), 3);
        due("22: the last one", x.withdraw(500), 2);
        due("22: the others then", Check.published(x), "200 400");
        due("22: one that is not published", Check.ask(() -> x.withdraw(300)), Check.REFUSED);
        due("22: the reason", x.refusal(), 5);
        due("22: one behind all", Check.ask(() -> x.withdraw(LAST)), Check.REFUSED);
        due("22: the least one", Check.ask(() -> x.withdraw(0)), Check.REFUSED);
        due("22: no version -1", Check.ask(() -> x.withdraw(-1)), Check.ARGUMENT);
        due("22: no version 100000000", Check.ask(() -> x.withdraw(LAST + 1)), Check.ARGUMENT);
        due("22: it can be published again", x.publish(300), 3);
        due("22: down to none", x.withdraw(300) + x.withdraw(200) + x.withdraw(400), 3);
        due("22: from none", Check.ask(() -> x.withdraw(200)), Check.REFUSED);
        VersionAlgebra y = new VersionAlgebra();
        for (int version = 0; version < 30; version++) {
            y.publish(version);
        }
        due("22: of 30", y.withdraw(29), 29);
        due("22: makes room", y.publish(40), 30);
        due("22: the first one of 30", y.withdraw(0), 29);
    }

    private static void published() {
        VersionAlgebra x = new VersionAlgebra();
        due("23: none", Check.ask(() -> x.published(0)), Check.NO_ELEMENT);
        x.publish(20);
        x.publish(10);
        due("23: the least one", x.published(0), 10);
        due("23: the next one", x.published(1), 20);
        due("23: no place 2", Check.ask(() -> x.published(2)), Check.NO_ELEMENT);
        due("23: no place -1", Check.ask(() -> x.published(-1)), Check.NO_ELEMENT);
        due("23: no place 30", Check.ask(() -> x.published(30)), Check.NO_ELEMENT);
        due("23: no place of the greatest number", Check.ask(() -> x.published(Integer.MAX_VALUE)), Check.NO_ELEMENT);
        x.withdraw(20);
        due("23: no place of a withdrawn one", Check.ask(() -> x.published(1)), Check.NO_ELEMENT);
    }

    private static VersionAlgebra withPublished() {
        VersionAlgebra x = Make.with(">=1.0.0-5 <=2.0.0", "3.x", "<0.0.0-0", "*");
        for (int version : new int[] {1000004, 1000006, 1000099, 1500098, 2500099, 1500099, 1999998}) {
            x.publish(version);
        }
        return x;
    }

    private static void best() {
        VersionAlgebra x = withPublished();
        due("24: the greatest one", x.best(0, false), 1999998);
        due("24: strictly", x.best(0, true), 1500099);
        due("24: of all", x.best(3, true), 2500099);
        due("24: none of a range", Check.ask(() -> x.best(1, false)), Check.NO_ELEMENT);
        due("24: none of none", Check.ask(() -> x.best(2, false)), Check.NO_ELEMENT);
        x.withdraw(1500099);
        x.withdraw(1000099);
        due("24: a prerelease strictly", x.best(0, true), 1000006);
        x.withdraw(1000006);
        due("24: none strictly", Check.ask(() -> x.best(0, true)), Check.NO_ELEMENT);
        due("24: but not strictly", x.best(0, false), 1999998);
        VersionAlgebra y = Make.with("1.x");
        y.publish(1000099);
        y.publish(2000099);
        due("24: the least one published", y.best(0, true), 1000099);
        due("24: an empty slot", Check.ask(() -> x.best(5, true)), Check.NO_ELEMENT);
        due("24: no slot -1", Check.ask(() -> x.best(-1, true)), Check.INDEX);
        due("24: no slot 12", Check.ask(() -> x.best(12, true)), Check.INDEX);
        due("24: none published", Check.ask(() -> Make.with("*").best(0, false)), Check.NO_ELEMENT);
    }

    private static void matching() {
        VersionAlgebra x = withPublished();
        due("25: not strictly", x.matching(0, false), 5);
        due("25: strictly", x.matching(0, true), 3);
        due("25: of all", x.matching(3, false), 7);
        due("25: of all strictly", x.matching(3, true), 3);
        due("25: of none", x.matching(2, false), 0);
        due("25: none", x.matching(1, true), 0);
        due("25: an empty slot", Check.ask(() -> x.matching(5, true)), Check.NO_ELEMENT);
        due("25: no slot -1", Check.ask(() -> x.matching(-1, true)), Check.INDEX);
        due("25: no slot 12", Check.ask(() -> x.matching(12, true)), Check.INDEX);
        due("25: none published", Make.with("*").matching(0, false), 0);
    }

    private static void share() {
        VersionAlgebra x = withPublished();
        due("26: some, not strictly", x.share(0), 5.0 / 7.0);
        due("26: all", x.share(3), 1.0);
        due("26: none", x.share(1), 0.0);
        due("26: of none", x.share(2), 0.0);
        due("26: an empty slot", Check.ask(() -> x.share(5)), Check.NO_ELEMENT);
        due("26: no slot -1", Check.ask(() -> x.share(-1)), Check.INDEX);
        due("26: no slot 12", Check.ask(() -> x.share(12)), Check.INDEX);
        VersionAlgebra y = Make.with("*");
        due("26: none published", Check.ask(() -> y.share(0)), Check.ARITHMETIC);
        due("26: an empty slot comes first", Check.ask(() -> y.share(1)), Check.NO_ELEMENT);
        due("26: no slot comes first", Check.ask(() -> y.share(12)), Check.INDEX);
        y.publish(5);
        due("26: one of one", y.share(0), 1.0);
    }

    private static void account() {
        VersionAlgebra x = Make.with("1.x|3.x|5.x", "2.x", "<0.0.0-0", "7.0.0|8.0.0");
        for (int version : new int[] {1000000, 2000099, 4000001, 4000099, 6000098, 9000099}) {
            x.publish(version);
        }
        Check.type(x, "12345");
        int[] dues = {4, 6, 3, 6, 3, 4, 1, 5};
        for (int what = 0; what < dues.length; what++) {
            due("27: account " + what, x.account(what), dues[what]);
        }
        x.clear(0);
        x.copy(2, 5);
        int[] duesThen = {4, 3, 2, 6, 3, 5, 2, 5};
        for (int what = 0; what < duesThen.length; what++) {
            due("27: account " + what + " then", x.account(what), duesThen[what]);
        }
        due("27: no account 8", Check.ask(() -> x.account(8)), Check.ARGUMENT);
        due("27: no account -1", Check.ask(() -> x.account(-1)), Check.ARGUMENT);
        due("27: no account of the least number", Check.ask(() -> x.account(Integer.MIN_VALUE)), Check.ARGUMENT);
        due("27: only ranges without versions", Make.with("<0.0.0-0").account(2), 0);
        x.publish(2500000);
        due("27: one within a range", x.account(5), 5);
        due("27: a prerelease that belongs, but not strictly", x.account(4), 4);
    }

    private static void undo() {
        VersionAlgebra x = new VersionAlgebra();
        due("28: none", Check.ask(() -> x.undo()), Check.STATE);
        for (int change = 1; change <= 10; change++) {
            x.put(0, change, change);
        }
        for (int left = 7; left >= 0; left--) {
            due("28: left " + left, x.undo(), left);
            due("28: the range with " + left, Check.ends(x, 0), (left + 2) + ".." + (left + 2));
        }
        due("28: only 8 are kept", Check.ask(() -> x.undo()), Check.STATE);
        due("28: the rest stays", Check.ends(x, 0), "2..2");
        x.put(0, 50, 50);
        x.put(0, 60, 60);
        due("28: changes behind undone ones", x.undo(), 1);
        x.put(0, 70, 70);
        due("28: go on", x.undo(), 1);
        due("28: and give", Check.ends(x, 0), "50..50");
        due("28: the last one", x.undo(), 0);
        due("28: gives", Check.ends(x, 0), "2..2");
    }

    private static void undoOfEachChange() {
        VersionAlgebra x = Make.with("1.x");
        Check.read(x, 0, "2.x");
        due("28: read", x.undo() + " " + Check.ends(x, 0), "1 1000000..1999999");
        Check.evaluate(x, 0, "!0");
        due("28: evaluate", x.undo() + " " + Check.ends(x, 0), "1 1000000..1999999");
        x.put(0, 1, 2);
        due("28: put", x.undo() + " " + Check.ends(x, 0), "1 1000000..1999999");
        x.clear(0);
        due("28: clear", x.undo() + " " + Check.ends(x, 0), "1 1000000..1999999");
        x.copy(5, 0);
        due("28: copy", x.undo() + " " + Check.ends(x, 0), "1 1000000..1999999");
        x.publish(5);
        x.publish(3);
        due("28: publish", x.undo() + " " + Check.published(x), "2 5");
        x.withdraw(5);
        due("28: withdraw", x.undo() + " " + Check.published(x), "2 5");
        x.clear(7);
        due("28: a change that leaves all", x.undo(), 2);
        x.copy(0, 0);
        due("28: another one", x.undo(), 2);
        Check.read(x, 0, "?");
        Check.read(x, 0, "1.0.0-99");
        Check.evaluate(x, 0, "9");
        Check.ask(() -> x.publish(5));
        Check.ask(() -> x.put(0, 2, 1));
        x.account(0);
        x.save();
        due("28: other calls are no changes", x.undo() + " " + Check.published(x), "1 ");
        due("28: down to nothing", x.undo() + " " + Check.ends(x, 0), "0 " + Check.NO_ELEMENT);
        due("28: no undo of an undo", Check.ask(() -> x.undo()), Check.STATE);
    }

    private static void undoLeavesTheRest() {
        VersionAlgebra x = Make.with("1.x");
        Check.evaluate(x, 3, "0&!0-9");
        Check.read(x, 3, "1.x?");
        Check.type(x, "2.");
        x.undo();
        due("28: the buffer stays", x.account(7), 2);
        due("28: the fault position stays", x.faultPosition(), 3);
        due("28: the reason stays", x.refusal(), 1);
        due("28: the chain stays", Check.chain(x), "4 5");
        due("28: the buffer is read on", Check.read(x, 0, "x"), 1);
        due("28: with all its characters", Check.ends(x, 0), "2000000..2999999");
    }

    private static void save() {
        VersionAlgebra x = Make.with("1.x");
        x.publish(5);
        x.save();
        Check.read(x, 0, "2.x");
        x.publish(6);
        due("29: changes nothing", Check.ends(x, 0) + " " + Check.published(x), "2000000..2999999 5 6");
        due("29: keeps what can be undone", x.undo() + " " + x.undo() + " " + x.undo(), "3 2 1");
        x.restore();
        due("29: the snapshot", Check.ends(x, 0) + " " + Check.published(x), "1000000..1999999 5");
        x.clear(0);
        x.withdraw(5);
        x.save();
        Check.read(x, 0, "3.x");
        x.restore();
        due("29: in place of an earlier one", Check.ends(x, 0) + " " + Check.published(x), Check.NO_ELEMENT + " ");
        VersionAlgebra y = new VersionAlgebra();
        y.save();
        y.put(4, 1, 2);
        y.restore();
        due("29: nothing can be saved, too", y.account(0), 0);
    }

    private static void restore() {
        VersionAlgebra x = Make.with("1.x", "3.x");
        due("30: no snapshot", Check.ask(() -> x.restore()), Check.STATE);
        due("30: nothing has changed", x.account(0), 2);
        due("30: nor what can be undone", x.undo(), 1);
        x.publish(7);
        x.save();
        x.put(5, 1, 2);
        x.withdraw(7);
        due("30: it restores", Check.ask(() -> x.restore()), "nothing");
        due("30: the slots", x.account(0) + " " + Check.ends(x, 0), "1 1000000..1999999");
        due("30: the versions", Check.published(x), "7");
        due("30: what was kept is forgotten", Check.ask(() -> x.undo()), Check.STATE);
        x.put(0, 8, 9);
        due("30: a change behind it is kept", x.undo() + " " + Check.ends(x, 0), "0 1000000..1999999");
        x.clear(0);
        x.restore();
        x.restore();
        due("30: the snapshot is kept", Check.ends(x, 0), "1000000..1999999");
        Check.evaluate(x, 3, "0&!0-9");
        Check.read(x, 3, "1.x?");
        Check.type(x, "2.");
        x.restore();
        due("30: the buffer stays", x.account(7), 2);
        due("30: the fault position stays", x.faultPosition(), 3);
        due("30: the reason stays", x.refusal(), 1);
        due("30: the chain stays", Check.chain(x), "4 5");
        for (int version = 0; version < 29; version++) {
            x.publish(version + 100);
        }
        x.restore();
        due("30: fewer versions than before", Check.published(x), "7");
    }

    private static void throwingLeavesAll() {
        VersionAlgebra x = Make.with("1.x|3.x", "2.x");
        x.publish(2000099);
        Check.type(x, "0");
        for (int slot : new int[] {-1, 12}) {
            Check.ask(() -> x.read(slot));
            Check.ask(() -> x.evaluate(slot));
            Check.ask(() -> x.put(slot, 0, 0));
            Check.ask(() -> x.clear(slot));
            Check.ask(() -> x.copy(slot, 0));
            Check.ask(() -> x.copy(0, slot));
        }
        Check.ask(() -> x.put(0, 2, 1));
        Check.ask(() -> x.publish(-5));
        Check.ask(() -> x.withdraw(LAST + 5));
        Check.ask(() -> x.restore());
        due("exceptions leave the slots", Check.ends(x, 0) + " " + x.account(0), "1000000..1999999 3000000..3999999 2");
        due("exceptions leave the versions", Check.published(x), "2000099");
        due("exceptions leave the buffer", x.account(7), 1);
        due("exceptions leave what can be undone", x.undo(), 2);
    }
}
