import java.io.IOException;
import java.lang.reflect.Field;
import java.lang.reflect.Method;
import java.lang.reflect.Modifier;
import java.nio.file.Files;
import java.nio.file.Path;
import java.util.ArrayList;
import java.util.List;
import java.util.Set;
import java.util.TreeSet;
import java.util.regex.Matcher;
import java.util.regex.Pattern;

/** Rules of LANGUAGE.md that can be seen in the source's words or in the compiled classes. */
public final class RulesTest {
    private static final int MOST_FIELDS = 20;
    private static final int MOST_PARAMETERS = 7;
    private static final int MOST_LINES = 60;
    private static final Due due = new Due();
    private static final String[] NEVER = {
        "throw", "throws", "try", "catch", "synchronized", "assert", "import", "package",
        "lambda", "volatile", "native", "transient", "double", "float", "Object", "Thread",
        "Random", "equals", "hashCode", "toString", "extends", "implements", "protected",
        "instanceof", "var"};
    private static final Set<String> LIBRARY =
            Set.of("System.arraycopy", "Integer.bitCount", "Long.bitCount");

    public static void main(String[] args) throws IOException {
        String source = Files.readString(Path.of("src/main/java/SelfChecks.java"));
        String code = withoutComments(source);
        for (String word : NEVER) {
            due.holds("no '" + word + "'", !Pattern.compile("\\b" + word + "\\b").matcher(code).find());
        }
        due.holds("no arrow and no method reference", !code.contains("->") && !code.contains("::"));
        due.holds("signs 1 to 127 alone", source.chars().allMatch(c -> c > 0 && c < 128));
        onlyTheLibraryOfTheRules(code);
        loopsCount(code);
        objectsAreMadeInConstructors(code);
        methodsAreShort(code);
        for (Class<?> one : classes()) {
            fields(one);
            parameters(one);
        }
        due.end();
    }

    private static List<Class<?>> classes() {
        List<Class<?>> all = new ArrayList<>(List.of(SelfChecks.class.getDeclaredClasses()));
        all.add(SelfChecks.class);
        return all;
    }

    private static String withoutComments(String source) {
        return source.replaceAll("(?s)/\\*.*?\\*/", "").replaceAll("//[^\n]*", "");
    }

    /** A name that begins like a class is one of our own, or of a call that rule 4 has. */
    private static void onlyTheLibraryOfTheRules(String code) {
        Set<String> own = new TreeSet<>();
        classes().forEach(one -> own.add(one.getSimpleName()));
        Matcher name = Pattern.compile("\\b[A-Z]\\w*[a-z]\\w*\\b(\\.\\w+)?").matcher(code);
        while (name.find()) {
            String whole = name.group();
            String first = whole.split("\\.")[0];
            due.holds(whole + " is our own or in the library",
                    own.contains(first) || LIBRARY.contains(whole));
        }
    }

    /** Rule 9: each loop is a for with a counter against a bound, and steps by one. */
    private static void loopsCount(String code) {
        due.holds("no while and no do", !Pattern.compile("\\b(while|do)\\b").matcher(code).find());
        Matcher loop = Pattern.compile("\\bfor \\(([^{]*)\\) \\{").matcher(code);
        int seen = 0;
        while (loop.find()) {
            seen++;
            due.holds("for (" + loop.group(1) + ") counts", loop.group(1).matches(
                    "int (\\w+) = \\w+; \\1 < [\\w.()]+( && [^;|]+)?; \\1\\+\\+"));
        }
        due.holds("loops were seen", seen > 0);
    }

    /** Rule 12: what is made, is made once for each object of the class. */
    private static void objectsAreMadeInConstructors(String code) {
        for (String line : code.split("\n")) {
            if (line.contains("new ")) {
                due.holds("'" + line.trim() + "' makes a part of its object", line.matches(
                        " *(final |private final )?(\\w+\\[\\] )?\\w+(\\[i\\])? = new \\w+(\\(\\)|\\[\\w+\\]);"));
            }
        }
    }

    /** A line with one brace more at the depth of a method opens one; sixty lines are the most. */
    private static void methodsAreShort(String code) {
        int start = 0;
        int line = 0;
        for (String text : code.split("\n")) {
            line++;
            if (text.matches(" {4}( {4})?(public|private|static|int|boolean|void|long)\\b.*\\{")
                    && !text.contains(" class ")) {
                start = line;
            }
            if (start > 0 && text.matches(" {4}( {4})?\\}")) {
                due.holds("the method at line " + start + " is short", line - start < MOST_LINES);
                start = 0;
            }
        }
    }

    /** Rules 3, 5 and 11: what is static is a constant; fields are few and of types that are told. */
    private static void fields(Class<?> one) {
        int own = 0;
        for (Field field : one.getDeclaredFields()) {
            Class<?> type = field.getType();
            if (Modifier.isStatic(field.getModifiers())) {
                due.holds(field + " is a constant",
                        Modifier.isFinal(field.getModifiers()) && type == int.class);
                continue;
            }
            own++;
            Class<?> part = type.isArray() ? type.getComponentType() : type;
            due.holds(field + " is of a type that is told",
                    part.isPrimitive() || classes().contains(part));
        }
        due.holds(one + " has few fields", own <= MOST_FIELDS);
    }

    private static void parameters(Class<?> one) {
        for (Method method : one.getDeclaredMethods()) {
            due.holds(method + " takes seven at most", method.getParameterCount() <= MOST_PARAMETERS);
        }
    }
}
