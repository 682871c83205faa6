import java.io.IOException;
import java.io.UncheckedIOException;
import java.nio.file.Files;
import java.nio.file.Path;
import java.util.LinkedHashMap;
import java.util.Map;

/**
 * The document's words: a test tells which of them it tests, and in the end no sentence of the terms, no number
 * and no exception of a promise may be left that no test told of.
 */
final class Doc {
    private static final Map<String, Section> SECTIONS = read();

    private Doc() {
    }

    /** The words must stand in the section as they are, so that a test does not outlive its sentence. */
    static void says(String section, String words) {
        Section one = SECTIONS.get(section);
        Check.isTrue("the document has a section " + section, one != null);
        if (one != null) {
            Check.isTrue("the document says in " + section + ": " + words, one.tell(words));
        }
    }

    static void allIsTold() {
        SECTIONS.forEach((name, section) -> section.checkAllIsTold(name));
    }

    private static Map<String, Section> read() {
        Map<String, Section> sections = new LinkedHashMap<>();
        Section now = null;
        try {
            for (String line : Files.readAllLines(Path.of("../shared/DOC.md"))) {
                if (line.startsWith("## ")) {
                    String name = line.substring(3).split(":")[0];
                    now = name.equals("Terms") || name.startsWith("Promise ") ? new Section() : null;
                    if (now != null) {
                        sections.put(name, now);
                    }
                } else if (now != null) {
                    now.add(line);
                }
            }
        } catch (IOException e) {
            throw new UncheckedIOException(e);
        }
        return sections;
    }

    private static final class Section {
        private final StringBuilder text = new StringBuilder();
        private final StringBuilder told = new StringBuilder();

        void add(String line) {
            int signature = line.startsWith("`") ? line.indexOf("`:") : -1;
            text.append(line.substring(signature < 0 ? 0 : signature + 2)).append('\n');
        }

        boolean tell(String words) {
            while (told.length() < text.length()) {
                told.append(' ');
            }
            int from = text.indexOf(words);
            for (int i = from; from >= 0 && i < from + words.length(); i++) {
                told.setCharAt(i, '!');
            }
            return from >= 0;
        }

        void checkAllIsTold(String name) {
            tell("");
            int from = 0;
            for (int i = 0; i < text.length(); i++) {
                boolean ends = ".;:,\n".indexOf(text.charAt(i)) >= 0;
                if (ends) {
                    checkIsTold(name, from, i);
                    from = i + 1;
                }
            }
        }

        /** Terms and exceptions by all their parts, the rest where it names a number or a letter. */
        private void checkIsTold(String name, int from, int to) {
            String part = text.substring(from, to).trim();
            int line = text.lastIndexOf("\n", from) + 1;
            boolean whole = name.equals("Terms") || text.indexOf("Throws", line) == line;
            boolean counts = whole ? part.split(" ").length > 3 : part.matches(".*[0-9'].*");
            boolean isTold = told.substring(from, to).indexOf('!') >= 0;
            Check.isTrue("no test of \"" + part + "\" in " + name, isTold || !counts);
        }
    }
}
