import java.io.IOException;
import java.lang.reflect.Executable;
import java.lang.reflect.Field;
import java.lang.reflect.Modifier;
import java.nio.file.Files;
import java.nio.file.Path;
import java.util.ArrayList;
import java.util.List;
import java.util.regex.Matcher;
import java.util.regex.Pattern;

/** The rules of ../shared/LANGUAGE.md that can be seen from the class and its text without a proof. */
public final class LanguageTest {
    private static final int MOST_CLASSES = 12;
    private static final int MOST_FIELDS = 20;
    private static final int MOST_PARAMETERS = 7;
    private static final int MOST_LINES = 60;
    private static final Pattern NO_CODE = Pattern.compile(
        "/\\*.*?\\*/|//[^\n]*|\"(\\\\.|[^\"\\\\])*\"|'(\\\\.|[^'\\\\])'", Pattern.DOTALL);
    // Rules 1, 2, 4, 5, 6 and 13: what the class may not have, or does without.
    private static final String[] FORBIDDEN = {
        "package", "import", "protected", "throw", "throws", "try", "catch", "finally", "assert", "synchronized",
        "volatile", "transient", "native", "strictfp", "float", "double", "var", "Object", "equals", "hashCode",
        "toString", "getClass", "Thread", "Random", "java", "javax"};
    // Rule 4: of the library nothing but these is used.
    private static final String[] LIBRARY = {"String", "Integer", "System"};

    private LanguageTest() {
    }

    public static void main(String[] args) throws IOException {
        String text = Files.readString(Path.of("src/main/java/ObjectDepot.java"));
        String code = NO_CODE.matcher(text).replaceAll("0");
        words(code);
        types(code);
        methodLines(text);
        counts();
        Check.end();
    }

    private static void words(String code) {
        for (String word : FORBIDDEN) {
            Check.no("the word " + word, Pattern.compile("\\b" + word + "\\b").matcher(code).find());
        }
        Check.no("a lambda", code.contains("->"));
        Check.no("a method reference", code.contains("::"));
        Check.no("a static block", Pattern.compile("static\\s*\\{").matcher(code).find());
        Check.no("a loop without a condition", Pattern.compile("for \\(;|while \\(true|; ;").matcher(code).find());
        Check.no("arrays of two dimensions", Pattern.compile("\\]\\s*\\[\\s*\\]").matcher(code).find());
    }

    /** A word that begins with a capital and goes on small is a class: one of its own or of the library. */
    private static void types(String code) {
        List<String> known = new ArrayList<>(List.of(LIBRARY));
        for (Class<?> type : classes()) {
            known.add(type.getSimpleName());
        }
        for (Matcher m = Pattern.compile("\\b[A-Z]\\w*[a-z]\\w*\\b").matcher(code); m.find();) {
            Check.yes("the class " + m.group() + " may be used", known.contains(m.group()));
        }
        for (Matcher m = Pattern.compile("\\b(Integer|System)\\.(\\w+)").matcher(code); m.find();) {
            Check.yes(m.group() + " may be used", List.of("bitCount", "arraycopy").contains(m.group(2)));
        }
    }

    private static List<Class<?>> classes() {
        List<Class<?>> all = new ArrayList<>(List.of(ObjectDepot.class));
        for (int i = 0; i < all.size(); i++) {
            all.addAll(List.of(all.get(i).getDeclaredClasses()));
        }
        return all;
    }

    /** Rule 11: a method begins with a line that opens a brace and ends with the next one of that depth. */
    private static void methodLines(String text) {
        String[] lines = text.split("\n");
        int methods = 0;
        for (int from = 0; from < lines.length; from++) {
            Matcher m = Pattern.compile("( +)(?:[\\w\\[\\]]+ )*\\w+\\(.*\\) \\{").matcher(lines[from]);
            if (!m.matches() || m.group(1).length() > 8 || lines[from].matches(" *(if|for|while|switch) .*")) {
                continue;
            }
            methods++;
            int end = from;
            while (!lines[end].equals(m.group(1) + "}")) {
                end++;
            }
            Check.yes(lines[from] + " .. has " + (end - from + 1) + " lines", end - from + 1 <= MOST_LINES);
        }
        Check.yes("methods seen: " + methods, methods > 100);
    }

    private static void counts() {
        Check.yes("classes: " + classes().size(), classes().size() <= MOST_CLASSES);
        for (Class<?> type : classes()) {
            int fields = 0;
            for (Field field : type.getDeclaredFields()) {
                boolean isStatic = Modifier.isStatic(field.getModifiers());
                fields += isStatic ? 0 : 1;
                Check.yes(field + " is a constant if static", !isStatic
                    || Modifier.isFinal(field.getModifiers()) && field.getType() == int.class);
            }
            Check.yes(type + " has " + fields + " fields", fields <= MOST_FIELDS);
            List<Executable> all = new ArrayList<>(List.of(type.getDeclaredMethods()));
            all.addAll(List.of(type.getDeclaredConstructors()));
            for (Executable one : all) {
                Check.yes(one + ": parameters", one.getParameterCount() <= MOST_PARAMETERS);
            }
        }
    }
}
