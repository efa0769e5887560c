import java.io.IOException;
import java.lang.reflect.Method;
import java.lang.reflect.Modifier;
import java.nio.file.Files;
import java.nio.file.Path;
import java.util.ArrayList;
import java.util.List;
import java.util.Set;
import java.util.TreeSet;
import java.util.regex.Matcher;
import java.util.regex.Pattern;
import java.util.stream.Stream;

/** README.md has the face of the class, tells of each method and constant, and its run of calls is true. */
public final class ReadmeTest {
    /** The methods as the promises 2 to 20 have them, in their order. */
    private static final List<String> PROMISES = List.of("put", "blob", "entry", "tree", "clear", "commit", "move",
        "reference", "history", "clean", "object", "content", "find", "reaches", "pack", "unpack", "feed", "alter",
        "wire");
    private static final Pattern BLOCK = Pattern.compile("```java\n(.*?)```", Pattern.DOTALL);
    private static final Pattern CALL = Pattern.compile("x\\.(\\w+)\\((.*?)\\); +// ([^:]*)(: .*)?");
    private static final Pattern METHOD = Pattern.compile("    public (\\w+) (\\w+)\\((.*)\\);");
    private static final Pattern CONSTANT = Pattern.compile("    public static final int ([A-Z]+) = (-\\d+);");
    private static final Pattern METHOD_ROW = Pattern.compile("\\| (\\d+) \\| `(\\w+)\\((.*?)\\)` \\|.*");
    private static final Pattern CONSTANT_ROW = Pattern.compile("\\| `([A-Z]+)` \\| (-\\d+) \\|.*");
    private static final Pattern TEST_ROW = Pattern.compile("\\| `(\\w+Test)` \\|.*");

    private ReadmeTest() {
    }

    public static void main(String[] args) throws ReflectiveOperationException, IOException {
        String readme = Files.readString(Path.of("README.md"));
        List<String> blocks = blocks(readme);
        Check.same("blocks of Java: the face and the run", blocks.size(), 2);
        face(blocks.get(0));
        constants("the face", blocks.get(0), CONSTANT);
        constants("the table", readme, CONSTANT_ROW);
        methodTable(readme, blocks.get(0));
        run(blocks.get(1));
        tests(readme);
        Check.end();
    }

    private static List<String> blocks(String text) {
        List<String> blocks = new ArrayList<>();
        for (Matcher m = BLOCK.matcher(text); m.find();) {
            blocks.add(m.group(1));
        }
        return blocks;
    }

    /** What stands in this group of all lines that have this form. */
    private static List<String> column(String text, Pattern form, int group) {
        List<String> column = new ArrayList<>();
        for (String line : text.split("\n")) {
            Matcher m = form.matcher(line);
            if (m.matches()) {
                column.add(m.group(group));
            }
        }
        return column;
    }

    /** Each line of the face is one of the class, and nothing of the class is left out. */
    private static void face(String face) {
        Check.yes("the class", face.startsWith("public final class ObjectDepot {\n"));
        Check.yes("the constructor", face.contains("\n    public ObjectDepot();\n"));
        Check.same("lines", face.split("\n").length, 1 + 4 + 1 + PROMISES.size() + 1);
        Check.yes("the methods", column(face, METHOD, 2).equals(PROMISES));
        for (int i = 0; i < PROMISES.size(); i++) {
            String types = column(face, METHOD, 3).get(i).replaceAll(" \\w+(, |$)", " ").strip();
            String told = column(face, METHOD, 1).get(i) + " " + types;
            Check.yes(PROMISES.get(i) + " as it is told: " + told, told.strip().equals(types(PROMISES.get(i))));
        }
    }

    private static String types(String name) {
        Method method = methodNamed(name);
        StringBuilder types = new StringBuilder(method.getReturnType().toString());
        for (Class<?> type : method.getParameterTypes()) {
            types.append(' ').append(type);
        }
        return types.toString();
    }

    private static void constants(String what, String text, Pattern form) throws ReflectiveOperationException {
        List<String> names = column(text, form, 1);
        List<String> values = column(text, form, 2);
        Check.yes(what + ": " + names, names.equals(List.of("NONE", "FULL", "BROKEN", "LACKING")));
        for (int i = 0; i < names.size(); i++) {
            Check.same(what + ": " + names.get(i), Integer.parseInt(values.get(i)), constant(names.get(i)));
        }
    }

    private static int constant(String name) throws ReflectiveOperationException {
        return ObjectDepot.class.getField(name).getInt(null);
    }

    /** Each method with the number of its promise and with its parameters as the face names them. */
    private static void methodTable(String readme, String face) {
        Check.yes("the methods of the table", column(readme, METHOD_ROW, 2).equals(PROMISES));
        for (int i = 0; i < PROMISES.size(); i++) {
            Check.same(PROMISES.get(i) + ": promise", Integer.parseInt(column(readme, METHOD_ROW, 1).get(i)), i + 2);
            String parameters = column(face, METHOD, 3).get(i).replaceAll("(int|long) ", "");
            Check.yes(PROMISES.get(i) + ": " + parameters, column(readme, METHOD_ROW, 3).get(i).equals(parameters));
        }
    }

    private static void run(String block) throws ReflectiveOperationException {
        String[] lines = block.split("\n");
        Check.yes("the run begins with a new object", lines[0].equals("ObjectDepot x = new ObjectDepot();"));
        ObjectDepot x = new ObjectDepot();
        Set<String> called = new TreeSet<>();
        for (int i = 1; i < lines.length; i++) {
            Matcher m = CALL.matcher(lines[i]);
            Check.yes(lines[i] + " is a call with its answer", m.matches());
            called.add(m.group(1));
            call(lines[i], x, m.group(1), m.group(2), m.group(3));
        }
        Check.same("methods that the run uses", called.size(), PROMISES.size());
    }

    private static void call(String line, ObjectDepot x, String name, String arguments, String due)
        throws ReflectiveOperationException {
        Method method = methodNamed(name);
        Object answer = method.invoke(x, numbers(method, arguments));
        if (method.getReturnType() == boolean.class) {
            Check.yes(line + " answered " + answer, due.equals(answer.toString()));
        } else if (method.getReturnType() == int.class) {
            Check.same(line, (Integer) answer, due.matches("[A-Z]+") ? constant(due) : Integer.parseInt(due));
        }
    }

    private static Method methodNamed(String name) {
        for (Method method : ObjectDepot.class.getDeclaredMethods()) {
            if (Modifier.isPublic(method.getModifiers()) && method.getName().equals(name)) {
                return method;
            }
        }
        throw new IllegalArgumentException("no method " + name);
    }

    private static Object[] numbers(Method method, String arguments) {
        List<Object> numbers = new ArrayList<>();
        for (Class<?> type : method.getParameterTypes()) {
            long number = Long.decode(arguments.split(", ")[numbers.size()].replace("L", ""));
            numbers.add(type == long.class ? (Object) number : (Object) (int) number);
        }
        return numbers.toArray();
    }

    private static void tests(String readme) throws IOException {
        Set<String> told = new TreeSet<>(column(readme, TEST_ROW, 1));
        Set<String> there = new TreeSet<>();
        try (Stream<Path> files = Files.list(Path.of("src/test/java"))) {
            files.map(file -> file.getFileName().toString()).filter(name -> name.endsWith("Test.java"))
                .forEach(name -> there.add(name.replace(".java", "")));
        }
        Check.yes("the tests told " + told + " are those that there are " + there, told.equals(there));
    }
}
