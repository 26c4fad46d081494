/** Makes objects, ranges and faults for the tests that are written by hand. */
final class Make {
    static final int LAST = 99999999;

    private Make() {
    }

    /** A new object whose slots have the ranges of the texts, from slot 0 on. */
    static VersionAlgebra with(String... texts) {
        VersionAlgebra x = new VersionAlgebra();
        for (int slot = 0; slot < texts.length; slot++) {
            Check.type(x, texts[slot]).read(slot);
        }
        return x;
    }

    /** Puts a range of so many spans of one version into a slot, each with one version between them; empties slot 11. */
    static VersionAlgebra putSpans(VersionAlgebra x, int slot, int first, int count) {
        x.put(slot, first, first);
        for (int span = 1; span < count; span++) {
            x.put(11, first + 2 * span, first + 2 * span);
            Check.type(x, slot + "+11").evaluate(slot);
        }
        x.clear(11);
        return x;
    }

    /** Publishes so many successive versions. */
    static VersionAlgebra publish(VersionAlgebra x, int first, int count) {
        for (int version = first; version < first + count; version++) {
            x.publish(version);
        }
        return x;
    }

    static String rangeOf(String text) {
        VersionAlgebra x = new VersionAlgebra();
        Check.read(x, 0, text);
        return String.valueOf(Check.ends(x, 0));
    }

    /** The fault position of a text of a range if it throws for a fault, or else what read answers. */
    static Object faultOf(String text) {
        VersionAlgebra x = new VersionAlgebra();
        Object answer = Check.read(x, 0, text);
        return Check.ARGUMENT.equals(answer) ? (Object) x.faultPosition() : answer;
    }

    static Object faultOfExpression(String text) {
        VersionAlgebra x = new VersionAlgebra();
        Object answer = Check.evaluate(x, 0, text);
        return Check.ARGUMENT.equals(answer) ? (Object) x.faultPosition() : answer;
    }
}
