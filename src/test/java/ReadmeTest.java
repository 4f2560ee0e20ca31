import java.io.File;
import java.io.IOException;
import java.lang.reflect.Method;
import java.nio.file.Files;
import java.nio.file.Path;
import java.util.ArrayList;
import java.util.List;
import java.util.Set;
import java.util.TreeSet;
import java.util.regex.Matcher;
import java.util.regex.Pattern;

/** What README.md says is so: its example, its calls, its text, its classes and its tests. */
public final class ReadmeTest {
    private static final Pattern TYPED = Pattern.compile("for \\(char letter : \"([^\"]*)\"\\.toCharArray.*");
    private static final Pattern ASKED = Pattern.compile("x\\.(\\w+)\\(([^)]*)\\); +// (-?\\d+): .*");
    private static final Due due = new Due();

    public static void main(String[] args) throws IOException, ReflectiveOperationException {
        String readme = Files.readString(Path.of("README.md"));
        example(section(readme, "## How to use it"));
        calls(section(readme, "### The calls"));
        firstText(section(readme, "### The text"));
        classesInside(section(readme, "## How it is made"));
        tests(section(readme, "## How to run its tests"));
        due.end();
    }

    private static String section(String readme, String heading) {
        int start = readme.indexOf(heading + "\n");
        due.holds("README.md has " + heading, start >= 0);
        int end = readme.indexOf("\n#", start + 1);
        return readme.substring(Math.max(start, 0), end < 0 ? readme.length() : end);
    }

    /** Each line of the example is one of the forms that are looked at here, or the test fails. */
    private static void example(String section) throws ReflectiveOperationException {
        int start = section.indexOf("```java\n") + "```java\n".length();
        String[] lines = section.substring(start, section.indexOf("```", start)).split("\n");
        SelfChecks x = new SelfChecks();
        due.holds("it begins with a new object",
                lines[0].startsWith("SelfChecks x = new SelfChecks();"));
        int asked = 0;
        for (int i = 1; i < lines.length; i++) {
            Matcher typed = TYPED.matcher(lines[i]);
            Matcher call = ASKED.matcher(lines[i]);
            if (typed.matches()) {
                due.holds("it writes each letter", lines[i + 1].equals("    x.write(letter);"));
                Due.type(x, typed.group(1));
                i += 2;
            } else if (call.matches()) {
                asked++;
                due.same(lines[i], answer(x, call.group(1), call.group(2)),
                        Integer.parseInt(call.group(3)));
            } else {
                due.holds("it is seen what '" + lines[i] + "' says", false);
            }
        }
        due.holds("something was asked", asked > 0);
    }

    private static int answer(SelfChecks x, String name, String numbers)
            throws ReflectiveOperationException {
        List<Object> given = new ArrayList<>();
        for (String number : numbers.isEmpty() ? new String[0] : numbers.split(", ")) {
            given.add(Integer.parseInt(number));
        }
        for (Method method : SelfChecks.class.getDeclaredMethods()) {
            if (method.getName().equals(name) && method.getParameterCount() == given.size()) {
                return (Integer) method.invoke(x, given.toArray());
            }
        }
        throw new NoSuchMethodException(name);
    }

    /** The names that stand in the first column of a section's table. */
    private static List<String> firstColumn(String section) {
        List<String> names = new ArrayList<>();
        Matcher row = Pattern.compile("(?m)^\\| `([^`]*)` \\|").matcher(section);
        while (row.find()) {
            names.add(row.group(1));
        }
        return names;
    }

    private static void calls(String section) throws IOException {
        List<String> got = firstColumn(section);
        List<String> want = new Doc().calls();
        due.holds("the calls are " + want + ", not " + got, got.equals(want));
        for (String constant : new Doc().constants()) {
            String[] parts = constant.split(" = ");
            due.holds("it tells of " + constant,
                    section.contains("`" + parts[0] + "` (" + parts[1] + ")"));
        }
    }

    private static void firstText(String section) {
        Matcher text = Pattern.compile("(?m)^ {4}(n\\S*)$").matcher(section);
        due.holds("a text stands there", text.find());
        due.holds("it lays what a new object is",
                Due.state(Due.laid(text.group(1))).equals(Due.state(new SelfChecks())));
    }

    private static void classesInside(String section) {
        Set<String> inside = new TreeSet<>();
        for (Class<?> one : SelfChecks.class.getDeclaredClasses()) {
            inside.add(one.getSimpleName());
        }
        Set<String> told = new TreeSet<>(firstColumn(section));
        due.holds("the classes are " + inside + ", not " + told, inside.equals(told));
    }

    /** Every file of the tests is named, and each class that is named is there. */
    private static void tests(String section) {
        Set<String> there = new TreeSet<>();
        for (String file : new File("src/test/java").list()) {
            there.add(file.replace(".java", ""));
        }
        Set<String> told = new TreeSet<>();
        Matcher name = Pattern.compile("`([A-Z]\\w*)`").matcher(section);
        while (name.find()) {
            told.add(name.group(1));
        }
        due.holds("the tests are " + there + ", not " + told, there.equals(told));
        due.holds("the script is there", new File(".ci/run").canExecute());
        due.holds("it is named", section.contains("\n    .ci/run\n"));
    }
}
