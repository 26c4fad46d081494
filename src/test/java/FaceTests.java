import java.lang.reflect.Field;
import java.lang.reflect.Method;
import java.lang.reflect.Modifier;
import java.io.IOException;
import java.nio.file.Files;
import java.nio.file.Path;
import java.util.Arrays;
import java.util.Set;
import java.util.TreeSet;
import java.util.regex.Matcher;
import java.util.regex.Pattern;
import java.util.stream.Collectors;
import java.util.stream.Stream;

/** The public face as the document shows it, and those rules of LANGUAGE.md that can be seen from outside. */
public final class FaceTests {
    private static final String[] FACE = {
        "void append(char) STATE", "int read(int) INDEX ARGUMENT REFUSED", "int evaluate(int) INDEX ARGUMENT REFUSED",
        "int faultPosition()", "int put(int,int,int) INDEX ARGUMENT", "boolean clear(int) INDEX", "int copy(int,int) INDEX",
        "int spans(int) INDEX ELEMENT", "int end(int,int,boolean) INDEX ELEMENT", "int size(int) INDEX ELEMENT",
        "boolean contains(int,int,boolean) INDEX ARGUMENT ELEMENT", "int from(int,int) INDEX ARGUMENT ELEMENT",
        "int relation(int,int) INDEX ELEMENT", "boolean agrees(int,int,int,int) INDEX ARGUMENT ELEMENT",
        "int limit(int,boolean) ARGUMENT", "int textLength(int) INDEX ELEMENT", "char text(int,int) INDEX ELEMENT",
        "int refusal() ELEMENT", "int cause(int) STATE ELEMENT", "int publish(int) ARGUMENT REFUSED",
        "int withdraw(int) ARGUMENT REFUSED", "int published(int) ELEMENT", "int best(int,boolean) INDEX ELEMENT",
        "int matching(int,boolean) INDEX ELEMENT", "double share(int) INDEX ELEMENT ARITHMETIC", "int account(int) ARGUMENT",
        "int undo() STATE", "void save()", "void restore() STATE"};
    private static final String[][] SHORT = {{"java.lang.IllegalStateException", "STATE"},
        {"java.lang.IndexOutOfBoundsException", "INDEX"}, {"java.lang.IllegalArgumentException", "ARGUMENT"},
        {"java.lang.UnsupportedOperationException", "REFUSED"}, {"java.util.NoSuchElementException", "ELEMENT"},
        {"java.lang.ArithmeticException", "ARITHMETIC"}};
    private static final String[] FORBIDDEN = {"->", "::", "\\btry\\b", "\\bcatch\\b", "\\bfinally\\b", "\\bassert\\b",
        "\\bsynchronized\\b", "\\bvolatile\\b", "\\bObject\\b", "\\bfloat\\b", "\\bSystem\\.(?!arraycopy)", "Exact\\b",
        "\\bequals\\b", "\\bhashCode\\b", "\\btoString\\b", "\\bthrow (?!new \\w+Exception\\(\")", "\\bpackage\\b",
        "\\bnative\\b", "\\bthis\\b(?!\\.\\w)", "\\bprotected\\b", "@", "\\bvar\\b", "[^\\x00-\\x7e]"};

    private static final Check check = new Check();

    private FaceTests() {
    }

    public static void main(String[] args) throws IOException {
        Class<?> face = VersionAlgebra.class;
        check.due("the class is public and final", face.getModifiers(), Modifier.PUBLIC | Modifier.FINAL);
        check.due("the only constructor", Arrays.toString(face.getDeclaredConstructors()), "[public VersionAlgebra()]");
        Set<String> found = Arrays.stream(face.getDeclaredMethods()).filter(method -> !Modifier.isPrivate(method.getModifiers()))
                .map(FaceTests::shown).collect(Collectors.toCollection(TreeSet::new));
        check.due("the methods that are not private", found, new TreeSet<>(Arrays.asList(FACE)));
        members(face);
        check.due("at most 12 classes", face.getDeclaredClasses().length < 12, true);
        for (Class<?> inside : face.getDeclaredClasses()) {
            check.due(inside + " is static", Modifier.isStatic(inside.getModifiers()), true);
            check.due(inside + " is not public", Modifier.isPublic(inside.getModifiers()), false);
            members(inside);
        }
        source(Files.readString(Path.of("src/main/java/VersionAlgebra.java")));
        check.finish();
    }

    private static String shown(Method method) {
        String modifiers = Modifier.toString(method.getModifiers());
        String parameters = Arrays.stream(method.getParameterTypes()).map(Class::getName).collect(Collectors.joining(","));
        String thrown = Arrays.stream(method.getExceptionTypes()).map(type -> " " + shortName(type.getName()))
                .collect(Collectors.joining());
        return (modifiers.equals("public") ? "" : modifiers + " ") + method.getReturnType().getName() + " "
                + method.getName() + "(" + parameters + ")" + thrown;
    }

    private static String shortName(String exception) {
        return Stream.of(SHORT).filter(pair -> pair[0].equals(exception)).map(pair -> pair[1]).findFirst().orElse(exception);
    }

    private static void members(Class<?> type) {
        Set<String> names = Stream.of(FACE).map(line -> line.replaceAll("^\\w+ (\\w+)\\(.*", "$1"))
                .collect(Collectors.toSet());
        int fields = 0;
        for (Field field : type.getDeclaredFields()) {
            int modifiers = field.getModifiers();
            check.due(field + " is private", Modifier.isPrivate(modifiers), true);
            check.due(field + " is final if it is static", !Modifier.isStatic(modifiers) || Modifier.isFinal(modifiers), true);
            fields += Modifier.isStatic(modifiers) ? 0 : 1;
        }
        check.due(type + " has at most 20 fields", fields <= 20, true);
        for (Method method : type.getDeclaredMethods()) {
            check.due(method + " has at most 7 parameters", method.getParameterCount() <= 7, true);
            boolean isFace = type == VersionAlgebra.class && Modifier.isPublic(method.getModifiers());
            check.due(method + " has no name of the face", !isFace && names.contains(method.getName()), false);
        }
    }

    private static void source(String source) {
        String code = source.replaceAll("(?s)/\\*.*?\\*/", "").replaceAll("//[^\n]*", "");
        for (String forbidden : FORBIDDEN) {
            Matcher matcher = Pattern.compile(forbidden).matcher(code);
            check.due("in the source: " + forbidden, matcher.find() ? matcher.group() : "nothing", "nothing");
        }
        String imports = Stream.of(code.split("\n")).filter(line -> line.startsWith("import")).collect(Collectors.joining());
        check.due("the imports", imports, "import java.util.Arrays;import java.util.NoSuchElementException;");
        int lines = 0;
        for (String line : source.split("\n")) {
            lines = line.matches("( {4}| {8})(\\}|[^ }].*\\{)") ? 0 : lines + 1;
            check.due("a short method at " + line, lines <= 60, true);
        }
    }
}
