import java.io.IOException;

/** Each sentence of the document's section "Terms", and of what stands ahead of it, with a test of its own. */
public final class TermsTests {
    private static final int LAST = Make.LAST;

    private final Sentences doc = new Sentences();

    private TermsTests() throws IOException {
    }

    public static void main(String[] args) throws IOException {
        new TermsTests().go();
    }

    private void go() {
        doc.section("What it is");
        lifetime();
        doc.section("Terms");
        versions();
        ranges();
        textForms();
        numbers();
        textMeanings();
        caretsAndTildes();
        expressionForms();
        expressionMeanings();
        openSigns();
        faults();
        failures();
        chains();
        reasons();
        publishedVersions();
        memberships();
        canonicalTexts();
        changes();
        exceptions();
        inDoubt();
        doc.finish("What it is|Terms");
    }

    private void dueRanges(String... textsAndRanges) {
        for (int i = 0; i < textsAndRanges.length; i += 2) {
            doc.due(textsAndRanges[i], Make.rangeOf(textsAndRanges[i]), textsAndRanges[i + 1]);
        }
    }

    private void dueFaults(Object... textsAndFaults) {
        for (int i = 0; i < textsAndFaults.length; i += 2) {
            String text = String.valueOf(textsAndFaults[i]);
            doc.due("the fault of \"" + text + "\"", Make.faultOf(text), textsAndFaults[i + 1]);
        }
    }

    private void dueExpressionFaults(Object... textsAndFaults) {
        for (int i = 0; i < textsAndFaults.length; i += 2) {
            String text = String.valueOf(textsAndFaults[i]);
            doc.due("the fault of \"" + text + "\"", Make.faultOfExpression(text), textsAndFaults[i + 1]);
        }
    }

    private void dueWorth(VersionAlgebra x, String... textsAndRanges) {
        for (int i = 0; i < textsAndRanges.length; i += 2) {
            Object answer = Check.evaluate(x, 11, textsAndRanges[i]);
            doc.due(textsAndRanges[i], answer instanceof Integer ? Check.ends(x, 11) : answer, textsAndRanges[i + 1]);
        }
    }

    private void dueChains(VersionAlgebra x, String... textsAndChains) {
        for (int i = 0; i < textsAndChains.length; i += 2) {
            doc.due(textsAndChains[i] + " fails", Check.evaluate(x, 11, textsAndChains[i]), Check.REFUSED);
            doc.due("the chain of " + textsAndChains[i], Check.chain(x), textsAndChains[i + 1]);
        }
    }

    private void lifetime() {
        doc.says("An algebra of version ranges: versions with prereleases in one order, ranges as rows of spans, texts of "
                + "ranges with comparisons, carets, tildes and series, expressions of slots whose failures tell a chain of "
                + "causes, canonical texts, memberships of prereleases, published versions and the best one of them, "
                + "accounts, and undo.");
        doc.due("one of them", Check.text(Make.with("^1.2.3-4"), 0), ">=1.2.3-4 <=1.99.99");
        doc.says("An object is used for at most 512 calls after it has been made; what later calls answer is free.");
        VersionAlgebra x = new VersionAlgebra();
        for (int call = 0; call < 511; call++) {
            x.put(call % 12, call, call + 1);
        }
        doc.due("call 512 as a question", Check.ends(x, 6), "510..511");
        VersionAlgebra y = new VersionAlgebra();
        for (int call = 0; call < 255; call++) {
            y.publish(call);
            y.withdraw(call);
        }
        doc.due("call 511 as a change", y.publish(7), 1);
        doc.due("call 512 as undo", y.undo(), 7);
    }

    private void versions() {
        doc.says("Versions. A version has a major, a minor and a patch number from 0 to 99, and possibly a prerelease number "
                + "from 0 to 98.");
        dueRanges("0.0.0", "99..99", "99.99.99", "99999999..99999999", "0.0.0-0", "0..0", "99.99.99-98", "99999998..99999998");
        dueFaults("100.0.0", 2, "0.100.0", 4, "0.0.100", 6, "0.0.0-100", 8, "-1.0.0", 0, "0.-1.0", 2, "0.0.-1", 4, "0.0.0--1", 6);
        doc.due("a prerelease 99 is none", Check.read(new VersionAlgebra(), 0, "0.0.0-99"), Check.REFUSED);
        doc.says("It is told as the number 1000000 times the major, plus 10000 times the minor, plus 100 times the patch "
                + "number, plus the prerelease number, or plus 99 without one.");
        dueRanges("1.2.3-4", "1020304..1020304", "1.2.3", "1020399..1020399", "1.0.0-0", "1000000..1000000",
                "0.1.0-0", "10000..10000", "0.0.1-0", "100..100", "0.0.0-1", "1..1", "10.20.30-40", "10203040..10203040");
        doc.says("So the versions are the numbers from 0 to 99999999, and their order is that of these numbers; a prerelease "
                + "is ahead of the version without one.");
        VersionAlgebra x = new VersionAlgebra();
        doc.due("the least and the greatest one", x.put(0, 0, LAST), 100000000);
        doc.due("less than the least one", Check.ask(() -> x.put(0, -1, 0)), Check.ARGUMENT);
        doc.due("greater than the greatest one", Check.ask(() -> x.put(0, 0, LAST + 1)), Check.ARGUMENT);
        dueRanges("<1.0.0 >=1.0.0-98", "1000098..1000098", ">1.0.0 <=1.0.1-0", "1000100..1000100",
                ">0.0.99 <0.1.0-1", "10000..10000", ">0.99.99 <1.0.0-1", "1000000..1000000");
    }

    private void ranges() {
        doc.says("Ranges. A range is a set of versions.");
        VersionAlgebra x = Make.with("1.x|3.x|1.x", "3.x|1.5.x|1.x");
        doc.due("the same one in other words", x.relation(0, 1), 6);
        doc.due("each version counts once", x.size(0), 2000000);
        doc.says("Its spans are the longest rows of successive versions that belong to it, in ascending order; each has a first "
                + "version and a last one.");
        dueRanges("3.x|1.x", "1000000..1999999 3000000..3999999", "2.x|1.x", "1000000..2999999",
                "1.x|1.5.x", "1000000..1999999", ">=1.0.0 <2.0.0|>=1.5.0 <3.0.0", "1000099..3000098",
                "<1.0.0|=1.0.0", "0..1000099", "<1.0.0|>1.0.0", "0..1000098 1000100..99999999",
                "5.x|1.x|3.x|2.x|4.x", "1000000..5999999");
        VersionAlgebra y = new VersionAlgebra();
        y.put(0, 5, 5);
        y.put(1, 6, 6);
        y.put(2, 7, 7);
        dueWorth(y, "0+2", "5..5 7..7", "0+2+1", "5..7", "1+0", "5..6", "!1&!0", "0..4 7..99999999");
        doc.says("A range has at most 16 spans.");
        VersionAlgebra z = Make.putSpans(new VersionAlgebra(), 0, 1001, 16);
        doc.due("16", z.spans(0), 16);
        z.put(1, 5000, 5000);
        doc.due("17", Check.evaluate(z, 0, "0+1"), Check.REFUSED);
        doc.due("still 16", z.spans(0), 16);
        doc.says("There are the slots 0 to 11, each of which is empty or has a range, which can be one without versions.");
        VersionAlgebra w = new VersionAlgebra();
        for (int slot = 0; slot <= 11; slot++) {
            int filled = slot;
            doc.due("the empty slot " + slot, Check.ask(() -> w.spans(filled)), Check.NO_ELEMENT);
            doc.due("the slot " + slot + " with a range", w.put(slot, slot, slot) + " " + w.spans(slot), "1 1");
            doc.due("the slot " + slot + " with one without versions", Check.read(w, slot, "1.x 2.x") + " " + w.size(slot), "0 0");
        }
        doc.due("all of them have a range", w.account(0), 12);
        doc.due("no slot -1", Check.ask(() -> w.put(-1, 0, 0)), Check.INDEX);
        doc.due("no slot 12", Check.ask(() -> w.put(12, 0, 0)), Check.INDEX);
    }

    private void textForms() {
        doc.says("Texts of ranges. A text of a range has the form");
        dueFaults("", 0, "1.2.3", 1, "?", 0);
        doc.says("text = row { \"|\" row }");
        dueFaults("1.x", 1, "1.x|3.x", 2, "1.x|3.x|5.x", 3, "|", 0, "|1.x", 0, "1.x|", 4, "1.x||3.x", 4, "1.x |3.x", 4,
                "1.x,3.x", 3, "1.x/3.x", 3);
        doc.says("row = part { \" \" part }");
        dueFaults(">1.0.0 <2.0.0", 1, "* * *", 1, " ", 0, " 1.x", 0, "1.x ", 4, "1.x  1.x", 4, "1.x| 1.x", 4, ">1.0.0<2.0.0", 6,
                "1.x\t1.x", 3, "1.x\n1.x", 3);
        doc.says("part = [ \"<\" [ \"=\" ] | \">\" [ \"=\" ] | \"=\" | \"^\" | \"~\" ] version | \"*\" | number \".x\" | number "
                + "\".\" number \".x\"");
        for (String sign : new String[] {"<", "<=", ">", ">=", "=", "^", "~", ""}) {
            int length = sign.length();
            doc.due("a version behind \"" + sign + "\"", Make.faultOf(sign + "1.2.3-4"), 1);
            doc.due("\"" + sign + "\" alone", Make.faultOf(sign), length);
            doc.due("\"" + sign + "\" and a blank", Make.faultOf(sign + " 1.2.3"), length);
            doc.due("all behind \"" + sign + "\"", Make.faultOf(sign + "*"), length == 0 ? 1 : (Object) length);
            doc.due("a major series behind \"" + sign + "\"", Make.faultOf(sign + "1.x"), length == 0 ? 1 : (Object) (length + 2));
            doc.due("a minor series behind \"" + sign + "\"", Make.faultOf(sign + "1.2.x"),
                    length == 0 ? 1 : (Object) (length + 4));
        }
        dueFaults("==1.2.3", 1, "=<1.2.3", 1, "=>1.2.3", 1, "<>1.2.3", 1, "<==1.2.3", 2, ">>1.2.3", 1, "^^1.2.3", 1,
                "~=1.2.3", 1, "^=1.2.3", 1, "~>1.2.3", 1, "!1.2.3", 0, "x", 0, "*.x", 1, "1.*", 2, "1.X", 2, "1.2.X", 4,
                "1.x.x", 3, "1.x.0", 3, "1.2.x-0", 5, "1x", 1, "**", 1);
        doc.says("version = number \".\" number \".\" number [ \"-\" number ]");
        dueFaults("1.2.3", 1, "1.2.3-4", 1, "1", 1, "1.", 2, "1.2", 3, "1.2.", 4, "1.2.3-", 6, "1.2.3.4", 5, "1.2.3-4.5", 7,
                "1.2.3-4-5", 7, "1.2-3", 3, "1-2", 1, ".1.2", 0, "1..2", 2, "1.2..3", 4, "1.2.3-x", 6, "1.2.3-a", 6, "1.2.3+4", 5,
                "1.2.3-*", 6, "v1.2.3", 0, "1,2.3", 1);
    }

    private void numbers() {
        doc.says("where braces mean zero or more repetitions, brackets an optional part, and a number has 1 or 2 digits and does "
                + "not begin with 0, except for 0 itself.");
        String most = "1.x|1.x|1.x|1.x|1.x|1.x|1.x|1.x|1.x|1.x|1.x|1.x|1.x|1.x|1.x";
        dueFaults(most, 1, most.replace('|', ' '), 1, "*", 1, "=1.2.3", 1, "1.2.3", 1);
        dueFaults("0.0.0-0", 1, "9.9.9-9", 1, "10.10.10-10", 1, "99.99.99-98", 1, "0.x", 1, "99.x", 1, "99.0.x", 1, "0.99.x", 1);
        dueFaults("00.0.0", 1, "0.00.0", 3, "0.0.00", 5, "0.0.0-00", 7, "01.0.0", 1, "0.01.0", 3, "0.0.01", 5, "0.0.0-01", 7,
                "09.x", 1, "0.09.x", 3);
        dueFaults("100.0.0", 2, "0.100.0", 4, "0.0.100", 6, "0.0.0-100", 8, "100.x", 2, "0.100.x", 4, "123456789", 2,
                ".x", 0, "0..x", 2, "..", 0);
        dueFaults("/.x", 0, ":.x", 0, "1/.x", 1, "1:.x", 1, (char) ('1' + 256) + ".x", 0, "1" + (char) 0x661 + ".x", 1);
    }

    private void textMeanings() {
        doc.says("The range of a text are the versions that belong to one of its rows; to a row belong those that belong to all of "
                + "its parts.");
        dueRanges("1.x|3.x", "1000000..1999999 3000000..3999999", "1.x 1.5.x", "1050000..1059999", "1.x 2.x", "",
                "1.x 2.x|3.x", "3000000..3999999", "3.x|1.x 2.x", "3000000..3999999", "1.x|* 2.x", "1000000..2999999",
                "1.x 2.x|3.x 4.x", "", "*|1.x", "0..99999999", "1.x|*", "0..99999999", "* 1.x", "1000000..1999999",
                ">=1.0.0 <=1.0.0", "1000099..1000099", ">1.0.0 <1.0.0", "", ">=1.0.0 <1.0.0", "", ">1.0.0 <=1.0.0", "",
                "<2.0.0 >1.0.0 <1.5.0 >0.5.0", "1000100..1050098", "=1.2.3 =1.2.4", "", "1.2.3 ^1.0.0", "1020399..1020399");
        doc.says("To a comparison belong the versions that are less, at most, greater, at least, or the same; a version alone is "
                + "like one with \"=\".");
        dueRanges("<1.2.3", "0..1020398", "<=1.2.3", "0..1020399", ">1.2.3", "1020400..99999999", ">=1.2.3",
                "1020399..99999999", "=1.2.3", "1020399..1020399", "1.2.3", "1020399..1020399", "1.2.3-4", "1020304..1020304");
        dueRanges("<0.0.0-0", "", "<=0.0.0-0", "0..0", ">0.0.0-0", "1..99999999", ">=0.0.0-0", "0..99999999", "=0.0.0-0", "0..0",
                "<0.0.0-1", "0..0", "<99.99.99", "0..99999998", "<=99.99.99", "0..99999999", ">99.99.99", "",
                ">=99.99.99", "99999999..99999999", "=99.99.99", "99999999..99999999", ">99.99.99-98", "99999999..99999999",
                ">1.99.99", "2000000..99999999", "<1.0.0-0", "0..999999");
        doc.says("To a series belong all versions, those with its major number, or those with its major and minor number.");
        dueRanges("*", "0..99999999", "0.x", "0..999999", "1.x", "1000000..1999999", "99.x", "99000000..99999999",
                "0.0.x", "0..9999", "1.2.x", "1020000..1029999", "1.99.x", "1990000..1999999", "99.99.x", "99990000..99999999");
    }

    private void caretsAndTildes() {
        doc.says("To a caret belong the versions that are at least its version and less than the prerelease 0 of the next version "
                + "in which the first one of its three numbers that is not 0 is greater by 1 and those behind it are 0; if all "
                + "three are 0, the patch number counts.");
        dueRanges("^1.2.3", "1020399..1999999", "^1.0.0", "1000099..1999999", "^1.0.5", "1000599..1999999",
                "^0.2.3", "20399..29999", "^0.1.0", "10099..19999", "^0.0.3", "399..399", "^0.0.1", "199..199",
                "^0.0.3-0", "300..399", "^98.99.99", "98999999..98999999", "^1.2.3-98", "1020398..1999999",
                "^0.0.0", "99..99", "^0.0.0-0", "0..99", "^0.0.0-98", "98..99", "^10.0.0", "10000099..10999999");
        doc.says("To a tilde belong the versions that are at least its version and less than the prerelease 0 of the next minor "
                + "version.");
        dueRanges("~1.2.3", "1020399..1029999", "~1.2.0-0", "1020000..1029999", "~0.0.0", "99..9999", "~0.0.0-0", "0..9999",
                "~0.0.3", "399..9999", "~1.0.0", "1000099..1009999", "~1.2.99", "1029999..1029999", "~1.98.0", "1980099..1989999");
        doc.says("If a number that would be greater by 1 is 99, that one becomes 0 and the number ahead of it is greater by 1; if "
                + "there is none, all versions from there on belong to it.");
        dueRanges("^0.0.99", "9999..9999", "^0.0.99-0", "9900..9999", "^0.99.0", "990099..999999", "^0.99.99", "999999..999999",
                "^99.0.0", "99000099..99999999", "^99.1.2", "99010299..99999999", "^99.0.0-0", "99000000..99999999",
                "^99.99.99", "99999999..99999999", "~1.99.0", "1990099..1999999", "~0.99.5", "990599..999999",
                "~98.99.0", "98990099..98999999", "~99.99.0", "99990099..99999999", "~99.99.99", "99999999..99999999",
                "~99.98.0", "99980099..99989999");
    }

    private void expressionForms() {
        doc.says("Expressions. An expression has the form");
        dueExpressionFaults("", 0, "?", 0, "*", 0, "1.x", 1);
        VersionAlgebra x = Make.with("1.x", "2.x", "3.x");
        doc.says("expression = term { \"+\" term }");
        dueWorth(x, "0", "1000000..1999999", "0+2", "1000000..1999999 3000000..3999999", "0+1+2", "1000000..3999999");
        dueExpressionFaults("+", 0, "+0", 0, "0+", 2, "0++0", 2, "0+0+", 4, "0|0", 1, "0 +0", 1, "0+ 0", 2);
        doc.says("term = factor { ( \"&\" | \"-\" ) factor }");
        dueWorth(x, "0&0", "1000000..1999999", "0-1", "1000000..1999999", "0&0-1&0", "1000000..1999999");
        dueExpressionFaults("&", 0, "-", 0, "&0", 0, "-0", 0, "0&", 2, "0-", 2, "0&&0", 2, "0--0", 2, "0&-0", 2, "0-&0", 2,
                "0+&0", 2, "0&+0", 2, "0-+0", 2, "0+-0", 2, "0*0", 1);
        doc.says("factor = \"!\" factor | \"(\" expression \")\" | slot");
        dueWorth(x, "!0&0", "", "!!0", "1000000..1999999", "(0)", "1000000..1999999", "((0))", "1000000..1999999",
                "(0+1)", "1000000..2999999", "!(!0)", "1000000..1999999", "(!!0)", "1000000..1999999", "0-!0", "1000000..1999999");
        dueExpressionFaults("!", 1, "!!", 2, "(", 1, ")", 0, "()", 1, "(0", 2, "0)", 1, "(0))", 3, "((0)", 4, "!)", 1, "(!)", 2,
                "!+0", 1, "0!0", 1, "0(0)", 1, "(0)(0)", 3, "(0)0", 3, "(0)!0", 3, "(+0)", 1, "(0+)", 3, "(0&)", 3, "[0]", 0);
        doc.says("where a slot is one or two digits that do not begin with 0, except for 0 itself.");
        for (String slot : new String[] {"0", "1", "9", "10", "11", "12", "99"}) {
            doc.due(slot + " is a slot", Check.evaluate(new VersionAlgebra(), 0, slot), Check.REFUSED);
        }
        dueExpressionFaults("00", 1, "01", 1, "09", 1, "100", 2, "999", 2, "0+00", 3, "0+01", 3, "0+100", 4, "!00", 2, "(01)", 2,
                "x", 0, "/", 0, ":", 0, "" + (char) ('0' + 256), 0, "1" + (char) 0x661, 1);
    }

    private void expressionMeanings() {
        doc.says("It means the range of the slot; \"!\" means the versions that do not belong, \"&\" those that belong to both, "
                + "\"-\" those of the first one that do not belong to the second one, each with all that is on its left in the "
                + "term, and \"+\" those that belong to one of both.");
        VersionAlgebra x = new VersionAlgebra();
        x.put(0, 100, 200);
        x.put(1, 150, 300);
        x.put(2, 0, 120);
        x.put(3, 180, LAST);
        Check.evaluate(x, 4, "0-0");
        x.put(10, 0, LAST);
        dueWorth(x, "0", "100..200", "10", "0..99999999", "4", "", "!0", "0..99 201..99999999", "!2", "121..99999999",
                "!3", "0..179", "!4", "0..99999999", "!10", "", "!!0", "100..200");
        dueWorth(x, "0&1", "150..200", "2&3", "", "0&4", "", "4&0", "", "0&10", "100..200", "0&0", "100..200");
        dueWorth(x, "0-1", "100..149", "1-0", "201..300", "0-0", "", "0-4", "100..200", "4-0", "", "10-0", "0..99 201..99999999",
                "0-10", "", "2-3", "0..120");
        dueWorth(x, "0+1", "100..300", "0+0", "100..200", "0+4", "100..200", "4+4", "", "2+3", "0..120 180..99999999",
                "0+10", "0..99999999");
        dueWorth(x, "0-1-2", "121..149", "0-(1-3)", "100..149 180..200", "0-1&3", "", "0-(1&3)", "100..179",
                "0&1-3", "150..179", "0&(1-3)", "150..179", "1-0&3", "201..300", "1-(0&3)", "150..179 201..300",
                "2+0&1", "0..120 150..200", "(2+0)&1", "150..200", "2+0-1", "0..149", "(2+0)-1", "0..149",
                "!0&2", "0..99", "!(0&2)", "0..99 121..99999999", "!0+0", "0..99999999", "!(0+1)", "0..99 301..99999999");
        doc.due("into a slot that it asks for", Check.evaluate(x, 0, "0-1") + " " + Check.ends(x, 0), "1 100..149");
    }

    private void openSigns() {
        doc.says("Of \"!\" and \"(\", at most 8 are open at the same time, where \"!\" is open until its factor ends; one more is "
                + "a fault.");
        VersionAlgebra x = Make.with("1.x");
        dueWorth(x, "!!!!!!!!0", "1000000..1999999", "((((((((0))))))))", "1000000..1999999",
                "(!(!(!(!0))))", "1000000..1999999", "!(!(!(!(0))))", "1000000..1999999");
        dueExpressionFaults("!!!!!!!!!0", 8, "(((((((((0)))))))))", 8, "!(!(!(!(!0))))", 8, "((((((((!0))))))))", 8,
                "!!!!!!!!(0)", 8, "(!(!(!(!(0)))))", 8);
        dueWorth(x, "!!!!!!!!0&!!!!!!!!0", "1000000..1999999", "!!!!!!!!0+!!!!!!!!0", "1000000..1999999",
                "((((((((0))))))))&((((((((0))))))))", "1000000..1999999", "((((((((0)))))))&!!!!!!0)", "1000000..1999999",
                "!(0)&!(0)&!(0)&!(0)&!(0)&!(0)&!(0)&!(0)&!(0)&0", "", "!0+!0+!0+!0+!0+!0+!0+!0+!0+!0", "0..999999 2000000..99999999",
                "!!!!(0&!!!0)&!!!!!!!!0", "");
        dueExpressionFaults("!!!!(0&!!!!0)", 10, "((((((((0)))))))&!!!!!!!!0)", 24, "((((0&((((0&(0", 12, "!!!!!!!!0&!!!!!!!!!0", 18,
                "!!!!(0&(0)&((((0", 14);
    }

    private void faults() {
        doc.says("Faults. The fault position of a text or an expression is the index of its first character that cannot continue "
                + "such a text or expression, or the length if it ends too early.");
        dueFaults("?1.x?", 0, "1.x?1.x?", 3, "1.x|?", 4, "1.x ?", 4, ">=?", 2, "1?", 1, "12?", 2, "1.?", 2, "1.2?", 3, "1.2.3-?", 6,
                "", 0, "<", 1, ">=", 2, "^", 1, "1", 1, "10", 2, "1.", 2, "1.2", 3, "1.2.", 4, "1.2.3-", 6, "* ", 2, "*|", 2);
        dueExpressionFaults("?0?", 0, "0?0", 1, "0+?", 2, "(?", 1, "(0?", 2, "!?", 1, "(0)?", 3, "10?", 2,
                "", 0, "0+", 2, "0&", 2, "0-", 2, "!", 1, "(", 1, "(0", 2, "((0)", 4, "0+(1", 4);
        doc.says("A prerelease number 99 in a text of a range is no fault.");
        VersionAlgebra x = new VersionAlgebra();
        doc.due("it is refused", Check.read(x, 0, "1.0.0-99") + " " + x.faultPosition(), Check.REFUSED + " -1");
        dueFaults("1.0.0-99?", 8, "1.0.0-99 ", 9, "1.0.0-99|", 9, "1.0.0-990", 8);
    }

    private void failures() {
        doc.says("Failures. An expression is worked out from the left to the right, operands first.");
        VersionAlgebra x = Make.putSpans(new VersionAlgebra(), 0, 1001, 16);
        x.put(1, 5000, 5000);
        dueChains(x, "8+9", "1 0", "(0+1)+9", "5 2", "9+(0+1)", "1 0", "0+1+9", "3 1", "0+(1+9)", "1 4 5", "!0+9", "2 0",
                "9+!0", "1 0", "!9&!0", "2 0 1", "(0&9)-(8&9)", "5 2 3", "9-8&7", "3 1 0");
        doc.says("It fails at a slot that does not exist or is empty, for reason 1, and at an operation whose result has more than "
                + "16 spans, for reason 3.");
        for (String text : new String[] {"12", "99", "0&12", "2", "10", "0&2", "2&0", "!2"}) {
            doc.due(text, Check.evaluate(x, 11, text) + " " + x.refusal(), Check.REFUSED + " 1");
        }
        Make.putSpans(x, 3, 2001, 16);
        for (String text : new String[] {"0+1", "0+3", "!0", "!3", "(0+1)&1"}) {
            doc.due(text, Check.evaluate(x, 11, text) + " " + x.refusal(), Check.REFUSED + " 3");
        }
        x.put(4, 1002, 1002);
        x.put(5, 1001, 1001);
        x.put(6, 1000, 1032);
        for (String text : new String[] {"0", "0+0", "0&0", "0-1", "0&6", "0+5", "!(0-5)"}) {
            doc.due(text + " with 16 spans", Check.evaluate(x, 11, text), 16);
        }
        doc.due("with 17 spans by what is left out", Check.evaluate(x, 11, "6-0") + " " + x.refusal(), Check.REFUSED + " 3");
        doc.due("with 16 spans by what is left out", Check.evaluate(x, 11, "6-(0-5)"), 16);
        doc.due("with a gap that is filled", Check.evaluate(x, 11, "0+4"), 15);
    }

    private void chains() {
        doc.says("The chain of a failure tells where: for each operation that was going on, the outermost one first, its position, "
                + "which is the index of its sign, and then the position at which it failed, which is that of the first digit of "
                + "the slot, or that of the sign of the operation.");
        VersionAlgebra x = Make.putSpans(new VersionAlgebra(), 0, 1001, 16);
        x.put(1, 5000, 5000);
        dueChains(x, "9", "0", "10", "0", "1+10", "1 2", "1+99+1", "4 1 2", "1&10", "1 2", "1-10", "1 2", "!10", "0 1",
                "!!!10", "0 1 2 3", "1+1&10", "1 3 4", "1&10+1", "4 1 2", "10+1&1", "2 0", "1+1+1+10", "5 6",
                "1-1-10-1", "6 3 4", "1-(1&!(1+10))", "1 4 5 8 9", "0+1", "1", "!0", "0", "1+0", "1", "1&(0+1)", "1 4",
                "1+!0", "1 2", "!!0", "0 1", "!(0+1)", "0 3", "1-1+(1-(0+1)&1)", "3 12 6 9");
        doc.says("Parentheses are no operations.");
        dueChains(x, "(9)", "1", "((9))", "2", "(((9)))", "3", "1+(9)", "1 3", "(9)+1", "3 1", "(1+9)", "2 3", "((1)+(9))", "4 6",
                "((((((((9))))))))", "8", "((0)+1)", "4", "(!(0))", "1");
    }

    private void reasons() {
        doc.says("Reasons. Something is refused for the first of these reasons that applies: 1, an expression fails at a slot; 2, a "
                + "prerelease number is 99; 3, a range would have more than 16 spans; 4, 30 versions are published; 5, the version "
                + "is published already, or is not.");
        VersionAlgebra x = Make.putSpans(new VersionAlgebra(), 0, 1001, 16);
        doc.due("1", Check.evaluate(x, 1, "9") + " " + x.refusal(), Check.REFUSED + " 1");
        doc.due("2", Check.read(x, 1, "1.0.0-99") + " " + x.refusal(), Check.REFUSED + " 2");
        doc.due("3", Check.evaluate(x, 1, "!0") + " " + x.refusal(), Check.REFUSED + " 3");
        Make.publish(x, 1, 29);
        doc.due("5, published already", Check.ask(() -> x.publish(29)) + " " + x.refusal(), Check.REFUSED + " 5");
        x.publish(30);
        doc.due("4", Check.ask(() -> x.publish(31)) + " " + x.refusal(), Check.REFUSED + " 4");
        doc.due("5, not published", Check.ask(() -> x.withdraw(31)) + " " + x.refusal(), Check.REFUSED + " 5");
        doc.due("4 ahead of 5", Check.ask(() -> x.publish(30)) + " " + x.refusal(), Check.REFUSED + " 4");
        x.withdraw(30);
        doc.due("5 with one place left", Check.ask(() -> x.publish(29)) + " " + x.refusal(), Check.REFUSED + " 5");
    }

    private void publishedVersions() {
        doc.says("Published versions. At most 30 versions are published, each once.");
        VersionAlgebra x = Make.publish(new VersionAlgebra(), 100, 29);
        doc.due("number 30", x.publish(0), 30);
        doc.due("number 31", Check.ask(() -> x.publish(LAST)), Check.REFUSED);
        doc.due("there are 30", x.account(3), 30);
        doc.due("one is withdrawn", x.withdraw(110), 29);
        doc.due("one that is there", Check.ask(() -> x.publish(111)), Check.REFUSED);
        doc.due("the one that is not", x.publish(110), 30);
    }

    private void memberships() {
        doc.says("Memberships. A version without a prerelease belongs strictly to a range if it belongs to it.");
        VersionAlgebra x = Make.with(">=1.0.0-5 <=2.0.0-7|4.x", "*", ">=1.0.0 <=2.0.0", "<0.0.0-0");
        int[] versions = {999999, 1000099, 1000199, 1999999, 2000099, 3999999, 4000099, 4999999, 5000099};
        boolean[] dues = {false, true, true, true, false, false, true, true, false};
        for (int i = 0; i < versions.length; i++) {
            doc.due(String.valueOf(versions[i]), x.contains(0, versions[i], true), dues[i]);
        }
        doc.due("the first one of a span", x.contains(2, 1000099, true), true);
        doc.due("the last one of a span", x.contains(2, 2000099, true), true);
        doc.due("one ahead of it", x.contains(2, 999999, true), false);
        doc.due("the greatest one", x.contains(1, LAST, true), true);
        doc.due("none of none", x.contains(3, 99, true), false);
        doc.says("A prerelease belongs strictly to a range if it belongs to it and the first or the last version of its span has the "
                + "same three numbers and a prerelease, too.");
        int[] prereleases = {1000004, 1000005, 1000098, 1000100, 1999998, 1999900, 2000000, 2000007, 2000008, 4000000, 4000098,
            4000100, 4999998};
        boolean[] duesOfPrereleases = {false, true, true, false, false, false, true, true, false, true, true, false, false};
        for (int i = 0; i < prereleases.length; i++) {
            doc.due(String.valueOf(prereleases[i]), x.contains(0, prereleases[i], true), duesOfPrereleases[i]);
        }
        doc.due("an end without a prerelease does not count", x.contains(2, 2000050, false) + " " + x.contains(2, 2000050, true),
                "true false");
        doc.due("the least one of all is a prerelease", x.contains(1, 50, true) + " " + x.contains(1, 100, true), "true false");
        doc.due("the greatest one of all is none", x.contains(1, LAST - 1, true), false);
        doc.due("no prerelease of none", x.contains(3, 0, true), false);
        VersionAlgebra y = Make.with("<=1.0.0-3|>=1.0.0-5 <=1.0.0-6|>=1.0.0-8 <=1.5.0|>=1.0.1-5");
        doc.due("the ends of another span do not count", y.contains(0, 1000104, false) + " " + y.contains(0, 1000104, true),
                "true false");
        doc.due("each one of one span", y.contains(0, 1000005, true) + " " + y.contains(0, 1000006, true), "true true");
        doc.due("none between two spans", y.contains(0, 1000004, true) + " " + y.contains(0, 1000007, true), "false false");
        VersionAlgebra z = Make.with("1.2.3-4", "1.2.3", ">=0.2.3-4 <=1.2.3-4");
        doc.due("a span of one prerelease", z.contains(0, 1020304, true), true);
        doc.due("a span of one version", z.contains(1, 1020399, true), true);
        doc.due("another patch number", z.contains(2, 1020204, true), false);
        doc.due("another minor number", z.contains(2, 1010304, true), false);
        doc.due("another major number", z.contains(2, 20404, true), false);
    }

    private void dueTexts(String... sourcesAndTexts) {
        for (int i = 0; i < sourcesAndTexts.length; i += 2) {
            VersionAlgebra x = Make.with(sourcesAndTexts[i]);
            doc.due(sourcesAndTexts[i], Check.text(x, 0), sourcesAndTexts[i + 1]);
        }
    }

    private void canonicalTexts() {
        doc.says("Canonical texts. A range without versions has the text \"none\", one with all versions \"*\".");
        dueTexts("<0.0.0-0", "none", "1.x 2.x", "none", "*", "*", ">=0.0.0-0", "*", "<=99.99.99", "*", "<1.0.0|>=1.0.0", "*",
                ">0.0.0-0", ">=0.0.0-1", "<99.99.99", "<=99.99.99-98");
        doc.says("Otherwise its spans are written, with \"|\" between them: \"=\" and the version for a span of one version; and for "
                + "others \">=\" and the first version, unless that is the least one of all, a blank if both are written, and "
                + "\"<=\" and the last version, unless that is the greatest one of all.");
        dueTexts("1.2.3", "=1.2.3", "99.99.99", "=99.99.99", "1.2.3-4", "=1.2.3-4", "1.x", ">=1.0.0-0 <=1.99.99",
                "<=1.2.3", "<=1.2.3", ">=1.2.3", ">=1.2.3", "<=0.0.0-1", "<=0.0.0-1", ">=99.99.99-98", ">=99.99.99-98",
                ">=0.0.0-1 <=0.0.0-2", ">=0.0.0-1 <=0.0.0-2", ">=99.99.99-97 <99.99.99", ">=99.99.99-97 <=99.99.99-98",
                ">=1.2.3 <=1.2.4-0", ">=1.2.3 <=1.2.4-0");
        dueTexts("1.2.3|1.2.5", "=1.2.3|=1.2.5", "<1.0.0|>1.0.0", "<=1.0.0-98|>=1.0.1-0", "3.x|1.0.0|99.x",
                "=1.0.0|>=3.0.0-0 <=3.99.99|>=99.0.0-0", "0.0.0-0|99.99.99", "=0.0.0-0|=99.99.99",
                "<=0.0.0-1|>=99.99.99-98", "<=0.0.0-1|>=99.99.99-98", "0.x|2.x|4.x",
                "<=0.99.99|>=2.0.0-0 <=2.99.99|>=4.0.0-0 <=4.99.99");
        doc.says("A version is written as its three numbers with \".\" between them, and, if it is a prerelease, \"-\" and the "
                + "prerelease number.");
        dueTexts("0.0.0", "=0.0.0", "0.0.1-0", "=0.0.1-0", "0.1.0-98", "=0.1.0-98", "10.20.30-40", "=10.20.30-40",
                "99.99.99-98", "=99.99.99-98", "1.0.10", "=1.0.10", "0.0.0-1", "=0.0.0-1", "9.0.9-9", "=9.0.9-9");
    }

    private void changes() {
        doc.says("Changes. A change is a successful call of read, evaluate, put, clear, publish, withdraw or copy.");
        VersionAlgebra x = new VersionAlgebra();
        Check.read(x, 0, "1.x");
        Check.evaluate(x, 1, "!0");
        x.put(2, 5, 6);
        x.clear(0);
        x.publish(7);
        x.withdraw(7);
        x.copy(1, 3);
        Check.read(x, 0, "?");
        Check.read(x, 0, "1.0.0-99");
        Check.evaluate(x, 0, "?");
        Check.evaluate(x, 0, "9");
        Check.ask(() -> x.put(0, 2, 1));
        Check.ask(() -> x.clear(12));
        Check.ask(() -> x.withdraw(7));
        Check.ask(() -> x.publish(-1));
        Check.ask(() -> x.copy(0, 12));
        Check.ask(() -> x.read(12));
        x.save();
        x.contains(1, 5, true);
        String[] states = {"6 NoSuchElementException 0..999999 2000000..99999999 5..6 NoSuchElementException ",
            "5 NoSuchElementException 0..999999 2000000..99999999 5..6 NoSuchElementException 7",
            "4 NoSuchElementException 0..999999 2000000..99999999 5..6 NoSuchElementException ",
            "3 1000000..1999999 0..999999 2000000..99999999 5..6 NoSuchElementException ",
            "2 1000000..1999999 0..999999 2000000..99999999 NoSuchElementException NoSuchElementException ",
            "1 1000000..1999999 NoSuchElementException NoSuchElementException NoSuchElementException ",
            "0 NoSuchElementException NoSuchElementException NoSuchElementException NoSuchElementException "};
        for (String state : states) {
            doc.due("undone", x.undo() + " " + Check.ends(x, 0) + " " + Check.ends(x, 1) + " " + Check.ends(x, 2) + " "
                    + Check.ends(x, 3) + " " + Check.published(x), state);
        }
        doc.due("all undone", Check.ask(() -> x.undo()), Check.STATE);
        keptChanges();
        stayingParts();
        idleChanges();
    }

    private void keptChanges() {
        doc.says("What there was before each of the latest 8 changes is kept and can be undone; restore forgets it.");
        for (int changes = 0; changes <= 20; changes++) {
            VersionAlgebra x = new VersionAlgebra();
            for (int change = 0; change < changes; change++) {
                x.put(0, change, change);
            }
            int undone = 0;
            while (undone < 30 && !Check.STATE.equals(Check.ask(() -> x.undo()))) {
                undone++;
            }
            int left = Math.max(0, changes - 8);
            doc.due("of " + changes + " changes", undone + " " + Check.ends(x, 0), Math.min(changes, 8) + " "
                    + (left == 0 ? Check.NO_ELEMENT : (left - 1) + ".." + (left - 1)));
        }
        VersionAlgebra y = new VersionAlgebra();
        y.save();
        Make.publish(y, 0, 9);
        y.restore();
        doc.due("behind restore", Check.ask(() -> y.undo()), Check.STATE);
        doc.due("nothing has changed by that", y.account(3), 0);
        Make.publish(y, 0, 9);
        doc.due("behind new changes", y.undo(), 7);
    }

    private void stayingParts() {
        doc.says("The text buffer, the fault position, the reason and the chain that are kept do not belong to it, and stay.");
        for (boolean isRestored : new boolean[] {false, true}) {
            VersionAlgebra x = Make.with("1.x");
            x.save();
            x.put(0, 5, 6);
            Check.evaluate(x, 0, "0&9");
            Check.ask(() -> x.withdraw(3));
            Check.read(x, 0, "1.x?");
            Check.type(x, "3.");
            if (isRestored) {
                x.restore();
            } else {
                x.undo();
            }
            String after = isRestored ? " behind restore" : " behind undo";
            doc.due("the slot" + after, Check.ends(x, 0), "1000000..1999999");
            doc.due("the buffer" + after, x.account(7), 2);
            doc.due("the fault position" + after, x.faultPosition(), 3);
            doc.due("the reason" + after, x.refusal(), 5);
            doc.due("the chain" + after, Check.chain(x), "1 2");
            doc.due("the characters" + after, Check.read(x, 0, "x") + " " + Check.ends(x, 0), "1 3000000..3999999");
        }
    }

    private void idleChanges() {
        doc.says("A successful call is a change even if it leaves all as it was.");
        VersionAlgebra x = new VersionAlgebra();
        x.clear(0);
        x.copy(0, 0);
        x.copy(0, 1);
        x.put(2, 1, 1);
        x.put(2, 1, 1);
        x.copy(2, 2);
        Check.read(x, 2, "0.0.0-1");
        Check.evaluate(x, 2, "2");
        for (int left = 7; left >= 4; left--) {
            doc.due("left " + left, x.undo() + " " + Check.ends(x, 2), left + " 1..1");
        }
        for (int left = 3; left >= 0; left--) {
            doc.due("left " + left, x.undo() + " " + Check.ends(x, 2), left + " " + Check.NO_ELEMENT);
        }
    }

    private void exceptions() {
        doc.says("Exceptions. A call that throws an exception leaves the state unchanged, unless stated otherwise.");
        VersionAlgebra x = Make.with("1.x", "3.x");
        x.publish(2000099);
        x.save();
        x.put(2, 5, 6);
        Check.type(x, "0+1");
        Check.ask(() -> x.read(12));
        Check.ask(() -> x.evaluate(-1));
        Check.ask(() -> x.put(0, 2, 1));
        Check.ask(() -> x.put(0, -1, 1));
        Check.ask(() -> x.put(0, 1, LAST + 1));
        Check.ask(() -> x.clear(12));
        Check.ask(() -> x.copy(5, -1));
        Check.ask(() -> x.copy(12, 0));
        Check.ask(() -> x.publish(2000099));
        Check.ask(() -> x.publish(LAST + 1));
        Check.ask(() -> x.withdraw(7));
        Check.ask(() -> x.withdraw(-1));
        doc.due("the slots", Check.ends(x, 0) + " " + Check.ends(x, 1) + " " + Check.ends(x, 2) + " " + x.account(0),
                "1000000..1999999 3000000..3999999 5..6 3");
        doc.due("the versions", Check.published(x), "2000099");
        doc.due("the buffer", Check.ask(() -> x.evaluate(3)) + " " + Check.ends(x, 3), "2 1000000..1999999 3000000..3999999");
        doc.due("the changes", x.undo() + " " + x.undo() + " " + x.undo(), "4 3 2");
        VersionAlgebra y = new VersionAlgebra();
        for (int sign = 0; sign < 60; sign++) {
            y.append(' ');
        }
        Check.ask(() -> y.append('1'));
        doc.due("a full buffer", y.account(7), 60);
        Check.ask(() -> y.restore());
        Check.ask(() -> y.undo());
        doc.due("neither a snapshot nor a change", Check.ask(() -> y.restore()) + " " + Check.ask(() -> y.undo()),
                Check.STATE + " " + Check.STATE);
        doc.says("If several conditions of a method are fulfilled, the one that is listed first determines the exception.");
        severalConditions();
    }

    private void severalConditions() {
        VersionAlgebra x = Make.with("1.x");
        Check.type(x, "?");
        doc.due("read: slot, fault", Check.ask(() -> x.read(12)), Check.INDEX);
        doc.due("evaluate: slot, fault", Check.ask(() -> x.evaluate(-1)), Check.INDEX);
        doc.due("read: fault, refusal", Check.read(x, 0, "1.0.0-99"), Check.ARGUMENT);
        doc.due("evaluate: fault, refusal", Check.evaluate(x, 0, "9+"), Check.ARGUMENT);
        doc.due("put: slot, number", Check.ask(() -> x.put(12, -1, LAST + 1)), Check.INDEX);
        doc.due("end: slot, span", Check.ask(() -> x.end(-1, -1, true)), Check.INDEX);
        doc.due("contains: slot, number", Check.ask(() -> x.contains(12, -1, true)), Check.INDEX);
        doc.due("contains: number, empty", Check.ask(() -> x.contains(5, LAST + 1, true)), Check.ARGUMENT);
        doc.due("from: slot, number", Check.ask(() -> x.from(-1, -1)), Check.INDEX);
        doc.due("from: number, empty", Check.ask(() -> x.from(5, -1)), Check.ARGUMENT);
        doc.due("relation: empty, other slot", Check.ask(() -> x.relation(5, 12)), Check.INDEX);
        doc.due("relation: slot, other empty", Check.ask(() -> x.relation(-1, 5)), Check.INDEX);
        doc.due("relation: slot, both empty", Check.ask(() -> x.relation(12, 12)), Check.INDEX);
        doc.due("agrees: slot, operation", Check.ask(() -> x.agrees(12, 0, 0, 3)), Check.INDEX);
        doc.due("agrees: one slot, operation", Check.ask(() -> x.agrees(0, -1, 0, 3)), Check.INDEX);
        doc.due("agrees: other slot, operation", Check.ask(() -> x.agrees(0, 0, 12, 3)), Check.INDEX);
        doc.due("agrees: empty, slot", Check.ask(() -> x.agrees(5, 5, -1, 0)), Check.INDEX);
        doc.due("agrees: operation, empty", Check.ask(() -> x.agrees(5, 5, 5, 3)), Check.ARGUMENT);
        doc.due("text: slot, index", Check.ask(() -> x.text(12, -1)), Check.INDEX);
        doc.due("cause: no failure, index", Check.ask(() -> x.cause(-2)), Check.STATE);
        doc.due("publish: number, full", Check.ask(() -> Make.publish(new VersionAlgebra(), 0, 30).publish(-1)), Check.ARGUMENT);
        doc.due("withdraw: number, not published", Check.ask(() -> x.withdraw(-1)), Check.ARGUMENT);
        doc.due("share: slot, none published", Check.ask(() -> x.share(12)), Check.INDEX);
        doc.due("share: empty, none published", Check.ask(() -> x.share(5)), Check.NO_ELEMENT);
    }

    private void inDoubt() {
        doc.says("In doubt, too. For reason 3 only the range of the whole text counts, but in an expression that of each operation.");
        doc.due("a text of many rows, at last one span", Check.read(new VersionAlgebra(), 0,
                "1.x|3.x|5.x|7.x|9.x|0.x|2.x|4.x|6.x|8.x|1.x|3.x|5.x|*|1.x"), 1);
        VersionAlgebra x = Make.putSpans(new VersionAlgebra(), 0, 1001, 16);
        x.put(1, 5000, 5000);
        doc.due("the whole expression has one span", Check.evaluate(x, 2, "(0+1)&1") + " " + x.refusal(), Check.REFUSED + " 3");
        doc.due("in another order none has 17", Check.evaluate(x, 2, "0&1+1"), 1);
        doc.says("An operation is going on while its operands are worked out, also the left one: \"9+0\" with an empty slot 9 has the "
                + "chain 1, 0.");
        dueChains(x, "9+0", "1 0", "9&0", "1 0", "9-0", "1 0", "9+0+0", "3 1 0", "9&0+0", "3 1 0", "(9-0)&0", "5 2 1", "!0+0", "2 0");
        doc.says("An operation that fails itself stands in the chain once, at its end.");
        dueChains(x, "0+1", "1", "!0", "0", "!!0", "0 1", "0+1+1", "3 1", "1-(0+1)", "1 4", "1+0+1", "3 1");
        doc.says("All ends of all three ranges are looked at by agrees.");
        VersionAlgebra y = new VersionAlgebra();
        y.put(0, 100, 200);
        y.put(1, 300, 400);
        Check.evaluate(y, 2, "0+1");
        Check.evaluate(y, 3, "0&1");
        doc.due("of none but the result", y.agrees(2, 3, 3, 0), false);
        doc.due("of none but the one", y.agrees(3, 2, 3, 0), false);
        doc.due("of none but the other one", y.agrees(3, 3, 2, 0), false);
        doc.due("a second span is missing", y.agrees(0, 0, 1, 0), false);
        doc.due("a first span is missing", y.agrees(1, 0, 1, 0), false);
        doc.due("the union is as due", y.agrees(2, 0, 1, 0), true);
        doc.says("A span of one version is written with \"=\" also if it is the least one.");
        dueTexts("<=0.0.0-0", "=0.0.0-0", "0.0.0-0|2.0.0", "=0.0.0-0|=2.0.0", ">=99.99.99", "=99.99.99");
        doc.says("A caret or a tilde of a prerelease begins with it.");
        dueRanges("^1.2.3-4", "1020304..1999999", "~1.2.3-4", "1020304..1029999", "^0.0.0-0", "0..99", "~0.0.0-98", "98..9999");
        doc.says("A canonical text may be longer than the text buffer.");
        VersionAlgebra z = Make.with("10.10.x|20.10.x|30.10.x|40.10.x");
        doc.due("four spans", Check.text(z, 0), ">=10.10.0-0 <=10.10.99|>=20.10.0-0 <=20.10.99|>=30.10.0-0 <=30.10.99|>=40.10.0-0 "
                + "<=40.10.99");
        doc.due("its length", z.textLength(0), 91);
    }
}
