import java.io.IOException;
import java.nio.file.Files;
import java.nio.file.Path;
import java.util.LinkedHashMap;
import java.util.Map;

/** The document's sections, and which of their words a test has quoted so far. */
final class Doc {
    private static final Path FILE = Path.of("../shared/DOC.md");

    private static final class Section {
        final String text;
        final boolean[] quoted;

        Section(String text) {
            this.text = text;
            quoted = new boolean[text.length()];
        }
    }

    private final Map<String, Section> sections = new LinkedHashMap<>();

    Doc() throws IOException {
        for (String part : Files.readString(FILE).split("(?m)^## ")) {
            int end = part.indexOf('\n');
            // "Promise 2: write" is told of as "Promise 2".
            String title = part.substring(0, end).split(":")[0].trim();
            sections.put(title, new Section(plain(part.substring(end))));
        }
    }

    /** Without fences, chapter marks and a promise's signature; one blank between words. */
    private static String plain(String markdown) {
        return markdown.replaceAll("```\\w*", " ").replaceAll("={8} \\d", " ")
                .replaceAll("(?m)^`[^`]*`:", " ").replaceAll("\\s+", " ").trim();
    }

    /** Marks the first place with these words that is not quoted yet; false if they stand nowhere. */
    boolean quote(String title, String words) {
        Section section = sections.get(title);
        if (section == null || !section.text.contains(words)) {
            return false;
        }
        int at = section.text.indexOf(words);
        for (int next = at; next >= 0; next = section.text.indexOf(words, next + 1)) {
            if (!section.quoted[next]) {
                at = next;
                break;
            }
        }
        for (int i = at; i < at + words.length(); i++) {
            section.quoted[i] = true;
        }
        return true;
    }

    /** What of a section no test has quoted, without signs that tell nothing; empty if all is. */
    String left(String title) {
        Section section = sections.get(title);
        if (section == null) {
            return "there is no such section";
        }
        StringBuilder left = new StringBuilder();
        for (int i = 0; i < section.text.length(); i++) {
            left.append(section.quoted[i] ? ' ' : section.text.charAt(i));
        }
        return left.toString().replaceAll("[^\\w]+", " ").trim();
    }
}
