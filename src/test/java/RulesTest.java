import java.io.IOException;
import java.nio.file.Files;
import java.nio.file.Path;
import java.util.regex.Matcher;
import java.util.regex.Pattern;

/** Rules of LANGUAGE.md that can be seen in the source's words. */
public final class RulesTest {
    private static final Due due = new Due();
    private static final String[] NEVER = {
        "throw", "throws", "try", "catch", "synchronized", "assert", "import", "package",
        "lambda", "volatile", "native", "transient", "double", "float", "Object", "Thread",
        "Random", "equals", "hashCode", "toString", "extends", "implements", "protected"};

    public static void main(String[] args) throws IOException {
        String source = Files.readString(Path.of("src/main/java/SelfChecks.java"));
        String code = withoutComments(source);
        for (String word : NEVER) {
            due.holds("no '" + word + "'", !Pattern.compile("\\b" + word + "\\b").matcher(code).find());
        }
        due.holds("no arrow and no method reference", !code.contains("->") && !code.contains("::"));
        due.holds("signs 1 to 127 alone", source.chars().allMatch(c -> c > 0 && c < 128));
        onlyTheLibraryOfTheRules(code);
        methodsAreShort(code);
        due.end();
    }

    private static String withoutComments(String source) {
        return source.replaceAll("(?s)/\\*.*?\\*/", "").replaceAll("//[^\n]*", "");
    }

    private static void onlyTheLibraryOfTheRules(String code) {
        Matcher calls = Pattern.compile("\\b(System|Integer|Long|Math|Arrays)\\.(\\w+)").matcher(code);
        while (calls.find()) {
            String call = calls.group();
            due.holds(call + " is in the library", call.equals("System.arraycopy")
                    || call.equals("Integer.bitCount") || call.equals("Long.bitCount"));
        }
    }

    /** A line with one brace more at the depth of a method opens one; sixty lines are the most. */
    private static void methodsAreShort(String code) {
        int start = 0;
        int line = 0;
        for (String text : code.split("\n")) {
            line++;
            if (text.matches(" {4}( {4})?(public|private|static|int|boolean|void|long)\\b.*\\{")
                    && !text.contains(" class ")) {
                start = line;
            }
            if (start > 0 && text.matches(" {4}( {4})?\\}")) {
                due.holds("the method at line " + start + " is short", line - start < 60);
                start = 0;
            }
        }
    }
}
