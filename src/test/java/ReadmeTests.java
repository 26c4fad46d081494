import java.io.IOException;
import java.lang.reflect.InvocationTargetException;
import java.lang.reflect.Method;
import java.nio.file.Files;
import java.nio.file.Path;
import java.util.ArrayList;
import java.util.Arrays;
import java.util.List;
import java.util.Set;
import java.util.TreeSet;
import java.util.regex.Matcher;
import java.util.regex.Pattern;
import java.util.stream.Collectors;
import java.util.stream.Stream;

/** What README.md says: its examples are run, and its tables are held against the face and the tests that there are. */
public final class ReadmeTests {
    private static final String FORM = "(\\w+ \\w+\\([^)]*\\))";
    private static final Pattern FACE_LINE = Pattern.compile("(?m)^    public " + FORM + "(?: throws ([^;]*))?;$");
    private static final Pattern METHOD_ROW = Pattern.compile("(?m)^\\| `" + FORM + "` \\| (.+?) \\|(.*)\\|$");
    private static final Pattern THROWN = Pattern.compile("(?:^|; )`(\\w+Exception)`: [^`;]+(?=; `|$)");
    private static final Pattern TEST_ROW = Pattern.compile("(?m)^\\| `(\\w+Tests)` \\| .+ \\|$");
    private static final Pattern EXAMPLES = Pattern.compile("(?s)```java\n(.*?)```");
    private static final Pattern CALL = Pattern.compile("algebra\\.(\\w+)\\(([^)]*)\\);(?: +// (.*))?");
    private static final Pattern TYPED = Pattern.compile("type\\(algebra, \"(.*)\"\\);");
    private static final String MADE = "VersionAlgebra algebra = new VersionAlgebra();";

    private final Check check = new Check();
    private final String readme = Files.readString(Path.of("README.md"));
    private final Set<String> called = new TreeSet<>();
    private VersionAlgebra algebra = new VersionAlgebra();

    private ReadmeTests() throws IOException {
    }

    public static void main(String[] args) throws IOException {
        new ReadmeTests().go();
    }

    private void go() throws IOException {
        methodRows();
        testRows();
        Matcher example = EXAMPLES.matcher(readme);
        while (example.find()) {
            for (String line : example.group(1).split("\n")) {
                exampleLine(line);
            }
        }
        check.due("the methods that the examples call, and append by type", called, methodNames());
        check.finish();
    }

    /** Each method of the document's face has one row, in the face's order, with its exceptions in their order. */
    private void methodRows() throws IOException {
        List<String> face = new ArrayList<>();
        Matcher line = FACE_LINE.matcher(Files.readString(Path.of("../shared/DOC.md")));
        while (line.find()) {
            face.add(line.group(1) + " " + (line.group(2) == null ? List.of() : List.of(line.group(2).split(", "))));
        }
        List<String> rows = new ArrayList<>();
        Matcher row = METHOD_ROW.matcher(readme);
        while (row.find()) {
            rows.add(row.group(1) + " " + thrown(row.group(3).strip()));
        }
        check.due("the document shows methods", face.isEmpty(), false);
        check.due("the number of rows of methods", rows.size(), face.size());
        for (int i = 0; i < Math.min(face.size(), rows.size()); i++) {
            check.due("row " + i + " of the methods", rows.get(i), face.get(i));
        }
    }

    private List<String> thrown(String cell) {
        List<String> names = new ArrayList<>();
        Matcher thrown = THROWN.matcher(cell);
        while (thrown.find()) {
            names.add(thrown.group(1));
        }
        check.due("exceptions with their conditions alone: " + cell, THROWN.matcher(cell).replaceAll(""), "");
        return names;
    }

    private void testRows() throws IOException {
        Set<String> rows = new TreeSet<>();
        Matcher row = TEST_ROW.matcher(readme);
        while (row.find()) {
            rows.add(row.group(1));
        }
        try (Stream<Path> files = Files.list(Path.of("src/test/java"))) {
            Set<String> tests = files.map(file -> file.getFileName().toString())
                    .filter(name -> name.endsWith("Tests.java")).map(name -> name.replace(".java", ""))
                    .collect(Collectors.toCollection(TreeSet::new));
            check.due("the rows of tests", rows, tests);
        }
    }

    private static Set<String> methodNames() {
        return Arrays.stream(VersionAlgebra.class.getMethods())
                .filter(method -> method.getDeclaringClass() == VersionAlgebra.class).map(Method::getName)
                .collect(Collectors.toCollection(TreeSet::new));
    }

    private void exampleLine(String line) {
        Matcher call = CALL.matcher(line);
        Matcher typed = TYPED.matcher(line);
        if (typed.matches()) {
            called.add("append");
            Check.type(algebra, typed.group(1));
        } else if (call.matches()) {
            called.add(call.group(1));
            check.due(line, answer(call.group(1), call.group(2)), told(call.group(3)));
        } else {
            check.due("a line of an example", line, MADE);
            algebra = new VersionAlgebra();
        }
    }

    /** What stands behind a colon explains an answer. */
    private static String told(String comment) {
        return comment == null ? "nothing" : comment.replaceAll(": .*$", "");
    }

    private String answer(String name, String arguments) {
        String[] words = arguments.isEmpty() ? new String[0] : arguments.split(", ");
        for (Method method : VersionAlgebra.class.getMethods()) {
            if (method.getName().equals(name) && method.getParameterCount() == words.length) {
                return invoke(method, Arrays.stream(words).map(ReadmeTests::valueOf).toArray());
            }
        }
        return "there is no such method";
    }

    private static Object valueOf(String word) {
        return word.equals("true") || word.equals("false") ? (Object) Boolean.valueOf(word) : Integer.valueOf(word);
    }

    private String invoke(Method method, Object[] arguments) {
        try {
            Object answer = method.invoke(algebra, arguments);
            return method.getReturnType() == void.class ? "nothing" : String.valueOf(answer);
        } catch (InvocationTargetException e) {
            return "throws " + e.getCause().getClass().getSimpleName();
        } catch (IllegalAccessException e) {
            return e.toString();
        }
    }
}
