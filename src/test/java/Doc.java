import java.io.IOException;
import java.nio.file.Files;
import java.nio.file.Path;
import java.util.Arrays;
import java.util.LinkedHashMap;
import java.util.Map;

/** The document by its sections, and which of its words the tests have quoted so far. */
final class Doc {
    private static final Path PLACE = Path.of("../shared/DOC.md");
    private static final Map<String, Section> SECTIONS = new LinkedHashMap<>();

    private static final class Section {
        final String text;
        final boolean[] isQuoted;

        Section(String text) {
            this.text = text;
            isQuoted = new boolean[text.length()];
        }

        /** Marks the first place of these words that no quote holds yet. */
        boolean quote(String words) {
            int from = text.indexOf(words);
            while (from >= 0 && isQuoted[from]) {
                from = text.indexOf(words, from + 1);
            }
            if (from >= 0) {
                Arrays.fill(isQuoted, from, from + words.length(), true);
            }
            return from >= 0;
        }

        String notQuoted() {
            StringBuilder left = new StringBuilder();
            for (int index = 0; index < text.length(); index++) {
                left.append(isQuoted[index] ? '\n' : text.charAt(index));
            }
            return left.toString().replaceAll("\n+", " .. ").trim();
        }
    }

    private Doc() {
    }

    static void quote(String section, String words) {
        Section there = sections().get(section);
        if (there == null || !there.quote(words)) {
            Check.report("the section \"" + section + "\" does not say, or not so often: " + words);
        }
    }

    /** Reports the words of these sections that no test has quoted. */
    static void dueWhole(String... names) {
        Check.section("DOC.md");
        for (String name : names) {
            Section there = sections().get(name);
            String left = there == null ? "no such section" : there.notQuoted();
            if (left.matches("(?s).*[A-Za-z0-9].*")) {
                Check.report("no test has the words of the section \"" + name + "\": " + left);
            }
        }
    }

    /** The lines of the class in the section "The public face". */
    static String[] face() {
        String text = read();
        int from = text.indexOf("```java", text.indexOf("## The public face"));
        return text.substring(from, text.indexOf("\n```\n", from)).split("\n");
    }

    private static Map<String, Section> sections() {
        if (SECTIONS.isEmpty()) {
            for (String part : read().split("\n## ")) {
                int end = part.indexOf('\n');
                String name = part.substring(0, end).replaceAll("^(Promise \\d+):.*", "$1");
                String body = part.substring(end).replaceAll("(?m)^```.*$", "").replaceAll("\\s+", " ").trim();
                // FaceTest compares the head of a promise with the face.
                SECTIONS.put(name, new Section(name.startsWith("Promise") ? body.replaceAll("^`[^`]*`:", "") : body));
            }
        }
        return SECTIONS;
    }

    static String read() {
        try {
            return Files.readString(PLACE);
        } catch (IOException e) {
            throw new IllegalStateException(e);
        }
    }
}
