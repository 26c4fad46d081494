import java.util.Objects;
import java.util.concurrent.Callable;

/** Counts and prints the answers that are not as due, and has what the tests need to call a VersionAlgebra. */
final class Check {
    static final String INDEX = "IndexOutOfBoundsException";
    static final String ARGUMENT = "IllegalArgumentException";
    static final String STATE = "IllegalStateException";
    static final String REFUSED = "UnsupportedOperationException";
    static final String NO_ELEMENT = "NoSuchElementException";
    static final String ARITHMETIC = "ArithmeticException";

    private int asked = 0;
    private int wrong = 0;

    void due(String what, Object got, Object want) {
        asked++;
        if (!Objects.equals(got, want)) {
            wrong++;
            if (wrong <= 50) {
                System.out.println(what + " answered " + got + ", due is " + want);
            }
        }
    }

    int wrongCount() {
        return wrong;
    }

    void finish() {
        System.out.println(asked + " answers, of which " + wrong + " are not as due");
        if (wrong != 0 || asked == 0) {
            System.exit(1);
        }
    }

    /** The answer, or the plain name of exactly the class of the exception that is thrown. */
    static Object ask(Callable<?> call) {
        try {
            return call.call();
        } catch (Exception e) {
            return e.getClass().getSimpleName();
        }
    }

    static Object ask(Runnable call) {
        return ask(() -> {
            call.run();
            return "nothing";
        });
    }

    static VersionAlgebra type(VersionAlgebra x, String text) {
        for (int i = 0; i < text.length(); i++) {
            x.append(text.charAt(i));
        }
        return x;
    }

    static Object read(VersionAlgebra x, int slot, String text) {
        type(x, text);
        return ask(() -> x.read(slot));
    }

    static Object evaluate(VersionAlgebra x, int slot, String text) {
        type(x, text);
        return ask(() -> x.evaluate(slot));
    }

    /** All ends of a slot's spans, "first..last" each with blanks between them, or the name of an exception. */
    static Object ends(VersionAlgebra x, int slot) {
        return ask(() -> {
            StringBuilder ends = new StringBuilder();
            for (int span = 0; span < x.spans(slot); span++) {
                ends.append(span == 0 ? "" : " ").append(x.end(slot, span, false)).append("..");
                ends.append(x.end(slot, span, true));
            }
            return ends.toString();
        });
    }

    static Object text(VersionAlgebra x, int slot) {
        return ask(() -> {
            StringBuilder text = new StringBuilder();
            int length = x.textLength(slot);
            for (int index = 0; index < length; index++) {
                text.append(x.text(slot, index));
            }
            return text.toString();
        });
    }

    /** The positions with blanks between them, or the name of an exception. */
    static Object chain(VersionAlgebra x) {
        return ask(() -> {
            StringBuilder chain = new StringBuilder();
            int length = x.cause(-1);
            for (int index = 0; index < length; index++) {
                chain.append(index == 0 ? "" : " ").append(x.cause(index));
            }
            return chain.toString();
        });
    }

    static Object published(VersionAlgebra x) {
        return ask(() -> {
            StringBuilder versions = new StringBuilder();
            for (int place = 0; place < x.account(3); place++) {
                versions.append(place == 0 ? "" : " ").append(x.published(place));
            }
            return versions.toString();
        });
    }
}
