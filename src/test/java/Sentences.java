import java.io.IOException;
import java.nio.file.Files;
import java.nio.file.Path;
import java.util.LinkedHashMap;
import java.util.Map;
import java.util.regex.Matcher;
import java.util.regex.Pattern;

/**
 * Holds tests against the sentences of the document: each quoted sentence has to stand there and to have an answer that
 * is asked for, and none of a section that is looked at may be left without a test.
 */
final class Sentences {
    private static final Path DOCUMENT = Path.of("../shared/DOC.md");
    private static final Pattern HEADING = Pattern.compile("(?m)^## (.*)$");
    /** Stands for a quoted sentence, so that what is on its left and on its right never grow together. */
    private static final String QUOTED = "\n";

    private final Check check = new Check();
    /** By the heading, what no test has quoted so far. */
    private final Map<String, String> unquoted = new LinkedHashMap<>();
    private String section = "";
    private String sentence = "";
    private int answers = 1;

    Sentences() throws IOException {
        String document = Files.readString(DOCUMENT);
        Matcher heading = HEADING.matcher(document);
        int end = document.length();
        while (heading.find()) {
            Matcher next = HEADING.matcher(document);
            int start = heading.end();
            int stop = next.find(start) ? next.start() : end;
            unquoted.put(heading.group(1).strip(), document.substring(start, stop).replaceAll("\\s+", " ").strip());
        }
    }

    void section(String heading) {
        closeSentence();
        section = heading;
        check.due("the document has a section " + heading, unquoted.containsKey(heading), true);
    }

    void says(String quote) {
        closeSentence();
        sentence = quote;
        answers = 0;
        String rest = unquoted.getOrDefault(section, "");
        int at = rest.indexOf(quote);
        check.due(section + ": the document says once more: " + quote, at >= 0, true);
        if (at >= 0) {
            unquoted.put(section, rest.substring(0, at) + QUOTED + rest.substring(at + quote.length()));
        }
    }

    void due(String what, Object got, Object want) {
        answers++;
        check.due(section + ": \"" + sentence + "\": " + what, got, want);
    }

    private void closeSentence() {
        check.due(section + ": \"" + sentence + "\" has a test", answers > 0, true);
    }

    /** @param quotedSections a regular expression for the headings of the sections that had to be quoted in full */
    void finish(String quotedSections) {
        closeSentence();
        unquoted.forEach((heading, rest) -> {
            if (heading.matches(quotedSections)) {
                check.due(heading + ": what no test quotes", withoutForm(rest), "");
            }
        });
        check.finish();
    }

    /** Without the form of a call ahead of its promise, and without what is a comment of the interface alone. */
    private static String withoutForm(String rest) {
        return rest.replaceAll("^`[^`]*`: ?", "").replaceAll("Ahead of the calls [^:]*: [^.]*\\.", "").strip();
    }
}
