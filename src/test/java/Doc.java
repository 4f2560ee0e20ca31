import java.io.IOException;
import java.nio.file.Files;
import java.nio.file.Path;
import java.util.ArrayList;
import java.util.LinkedHashMap;
import java.util.List;
import java.util.Map;
import java.util.regex.Matcher;
import java.util.regex.Pattern;

/** The document's sections, and which of their words a test has quoted so far. */
final class Doc {
    private static final Path FILE = Path.of("../shared/DOC.md");

    private static final class Section {
        final String text;
        final boolean[] quoted;

        Section(String text) {
            this.text = text;
            quoted = new boolean[text.length()];
        }
    }

    private final Map<String, Section> sections = new LinkedHashMap<>();

    Doc() throws IOException {
        for (String part : Files.readString(FILE).split("(?m)^## ")) {
            int end = part.indexOf('\n');
            // "Promise 2: write" is told of as "Promise 2".
            String title = part.substring(0, end).split(":")[0].trim();
            sections.put(title, new Section(plain(part.substring(end))));
        }
    }

    /** Without fences, chapter marks and a promise's signature; one blank between words. */
    private static String plain(String markdown) {
        return markdown.replaceAll("```\\w*", " ").replaceAll("={8} \\d", " ")
                .replaceAll("(?m)^`[^`]*`:", " ").replaceAll("\\s+", " ").trim();
    }

    /** Marks the first place with these words that is not quoted yet; false if they stand nowhere. */
    boolean quote(String title, String words) {
        Section section = sections.get(title);
        if (section == null || !section.text.contains(words)) {
            return false;
        }
        int at = section.text.indexOf(words);
        for (int next = at; next >= 0; next = section.text.indexOf(words, next + 1)) {
            if (!section.quoted[next]) {
                at = next;
                break;
            }
        }
        for (int i = at; i < at + words.length(); i++) {
            section.quoted[i] = true;
        }
        return true;
    }

    /** The calls of "The public face", as "gate(g, k, a, b)"; all of them take and answer int. */
    List<String> calls() {
        List<String> calls = new ArrayList<>();
        Matcher call = Pattern.compile("public int (\\w+)\\(([^)]*)\\);").matcher(face());
        while (call.find()) {
            calls.add(call.group(1) + "(" + call.group(2).replaceAll("\\bint ", "") + ")");
        }
        return calls;
    }

    /** The constants of "The public face", as "BAD = -1". */
    List<String> constants() {
        Matcher row = Pattern.compile("public static final int ([^;]*);").matcher(face());
        return row.find() ? List.of(row.group(1).split(", ")) : List.of();
    }

    private String face() {
        Section section = sections.get("The public face");
        return section == null ? "" : section.text;
    }

    /** What of a section no test has quoted, without signs that tell nothing; empty if all is. */
    String left(String title) {
        Section section = sections.get(title);
        if (section == null) {
            return "there is no such section";
        }
        StringBuilder left = new StringBuilder();
        for (int i = 0; i < section.text.length(); i++) {
            left.append(section.quoted[i] ? ' ' : section.text.charAt(i));
        }
        return left.toString().replaceAll("[^\\w]+", " ").trim();
    }
}
