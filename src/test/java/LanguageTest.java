import java.io.IOException;
import java.lang.reflect.Constructor;
import java.lang.reflect.Executable;
import java.lang.reflect.Field;
import java.lang.reflect.Method;
import java.lang.reflect.Modifier;
import java.nio.charset.StandardCharsets;
import java.nio.file.Files;
import java.nio.file.Path;
import java.util.ArrayList;
import java.util.Arrays;
import java.util.List;
import java.util.TreeSet;
import java.util.regex.Matcher;
import java.util.regex.Pattern;

/** The rules of ../shared/LANGUAGE.md that a text or a class file shows; the others are for a reader. */
public final class LanguageTest {
    private static final Path SOURCE = Path.of("src/main/java/PeatShares.java");
    private static final String[] LIBRARY = {
        "String", "StringBuilder", "Integer", "Long", "Math", "ArrayList", "List", "Iterator", "Iterable", "Comparable", "System", "Arrays",
    };
    private static final int LONGEST_METHOD = 60;
    private static final int MOST_PARAMETERS = 7;
    private static final int MOST_CLASSES = 12;
    private static final int MOST_FIELDS = 20;

    private static final Checks checks = new Checks("LanguageTest");

    public static void main(String[] args) throws IOException {
        String source = Files.readString(SOURCE, StandardCharsets.ISO_8859_1);
        String code = withoutCommentsAndTexts(source);
        holds("only signs of 1 to 127", source.chars().allMatch(sign -> sign >= 1 && sign <= 127));
        words(code);
        names(code);
        lengths(code);
        List<Class<?>> classes = new ArrayList<>(Arrays.asList(PeatShares.class.getDeclaredClasses()));
        classes.add(PeatShares.class);
        holds("rule 11: at most " + MOST_CLASSES + " classes", classes.size() <= MOST_CLASSES);
        for (Class<?> one : classes) {
            fields(one, classes);
            methods(one);
        }
        checks.end();
    }

    private static void holds(String rule, boolean is) {
        checks.due(rule, is ? 1 : 0, 1);
    }

    private static String withoutCommentsAndTexts(String source) {
        return source.replaceAll("(?s)/\\*.*?\\*/", " ").replaceAll("//[^\n]*", " ").replaceAll("\"[^\"\n]*\"", "\"\"")
            .replaceAll("'[^'\n]*'", "' '");
    }

    private static void words(String code) {
        String[] forbidden = {
            "package", "import", "throw", "throws", "try", "catch", "finally", "synchronized", "assert", "volatile", "transient", "native",
            "hashCode", "toString", "Exception", "Object", "var",
        };
        for (String word : forbidden) {
            holds("the word " + word + " stands nowhere", !Pattern.compile("\\b" + word + "\\b").matcher(code).find());
        }
        for (String sign : new String[] {"->", "::", "static {", "\"\" +", "+ \"\"", "@"}) {
            holds("the sign " + sign + " stands nowhere", !code.contains(sign));
        }
    }

    /** Each name of a class is one of the library or one of the file. */
    private static void names(String code) {
        TreeSet<String> known = new TreeSet<>(Arrays.asList(LIBRARY));
        known.add("PeatShares");
        for (Class<?> inside : PeatShares.class.getDeclaredClasses()) {
            known.add(inside.getSimpleName());
        }
        Matcher name = Pattern.compile("\\b[A-Z]\\w*[a-z]\\w*\\b").matcher(code);
        while (name.find()) {
            holds("rule 4: " + name.group() + " is known", known.contains(name.group()));
        }
        holds("rule 4: no function whose name ends in Exact", !code.contains("Exact("));
    }

    /** A method stands from a line that ends with ") {" to the "}" that is indented as far. */
    private static void lengths(String code) {
        String[] lines = code.split("\n");
        for (int start = 0; start < lines.length; start++) {
            Matcher head = Pattern.compile("( {4}| {8})(?=\\S)[\\w\\[\\] ]+\\([\\w\\[\\], ]*\\) \\{").matcher(lines[start]);
            if (head.matches()) {
                int end = start;
                while (end < lines.length && !lines[end].equals(head.group(1) + "}")) {
                    end++;
                }
                holds("rule 11: " + lines[start].trim() + " is short", end - start < LONGEST_METHOD);
            }
        }
    }

    private static void fields(Class<?> one, List<Class<?>> own) {
        int number = 0;
        for (Field field : one.getDeclaredFields()) {
            if (Modifier.isStatic(field.getModifiers())) {
                holds("rule 5: " + field + " is final", Modifier.isFinal(field.getModifiers()));
                holds("rule 5: " + field + " is a constant", field.getType().isPrimitive() || field.getType() == String.class);
            } else {
                number++;
            }
            Class<?> type = field.getType();
            Class<?> element = type.isArray() ? type.getComponentType() : type;
            holds("rule 3: the type of " + field, element.isPrimitive() || element == String.class || own.contains(element));
        }
        holds("rule 11: " + one + " has at most " + MOST_FIELDS + " fields", number <= MOST_FIELDS);
        holds("rule 2: " + one + " is a class of its own", one == PeatShares.class || Modifier.isStatic(one.getModifiers()));
        holds("rule 2: " + one + " has no class inside", one == PeatShares.class || one.getDeclaredClasses().length == 0);
    }

    private static void methods(Class<?> one) {
        List<Executable> all = new ArrayList<>(Arrays.asList(one.getDeclaredMethods()));
        all.addAll(Arrays.asList(one.getDeclaredConstructors()));
        TreeSet<String> face = new TreeSet<>();
        for (Method method : PeatShares.class.getMethods()) {
            face.add(method.getName());
        }
        for (Executable method : all) {
            holds("rule 11: " + method + " takes few parameters", method.getParameterCount() <= MOST_PARAMETERS);
            boolean isFace = one == PeatShares.class && Modifier.isPublic(method.getModifiers());
            holds("rule 1: " + method + " bears no name of the face", isFace || method instanceof Constructor || !face.contains(method.getName()));
        }
    }
}
