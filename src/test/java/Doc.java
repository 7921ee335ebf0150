import java.io.IOException;
import java.io.UncheckedIOException;
import java.nio.file.Files;
import java.nio.file.Path;
import java.util.LinkedHashMap;
import java.util.List;
import java.util.Map;

/** What the document says, section by section, as one line each; run from the project's folder. */
final class Doc {
    private static final Path FILE = Path.of("..", "shared", "DOC.md");

    private final Map<String, StringBuilder> sections = new LinkedHashMap<>();

    Doc() {
        String section = "";
        for (String line : lines()) {
            section = sectionFrom(line, section);
            String words = wordsOf(line);
            if (!words.isEmpty()) {
                sections.computeIfAbsent(section, key -> new StringBuilder()).append(words).append(' ');
            }
        }
    }

    boolean says(String section, String words) {
        return textOf(section).contains(words);
    }

    /** What is left of a section without those words; blank, if they are all that it says. */
    String without(String section, List<String> said) {
        StringBuilder left = new StringBuilder(textOf(section));
        for (String words : said) {
            String text = textOf(section);
            for (int at = text.indexOf(words); at >= 0; at = text.indexOf(words, at + 1)) {
                for (int i = at; i < at + words.length(); i++) {
                    left.setCharAt(i, ' ');
                }
            }
        }
        return left.toString().strip();
    }

    private String textOf(String section) {
        return String.valueOf(sections.get(section));
    }

    private static List<String> lines() {
        try {
            return Files.readAllLines(FILE);
        } catch (IOException e) {
            throw new UncheckedIOException(e);
        }
    }

    private static String sectionFrom(String line, String before) {
        if (line.startsWith("## Promise ")) {
            return line.substring(3, line.indexOf(':'));
        }
        if (line.startsWith("## ")) {
            return line.substring(3);
        }
        if (line.startsWith("== ")) {
            return "Terms " + line.charAt(3);
        }
        if (line.startsWith("Ahead of the calls")) {
            return "Ahead of the calls";
        }
        return line.startsWith("A method that throws") ? "Every promise" : before;
    }

    /** Without headings, fences, the heads of the methods, and what the arguments are called. */
    private static String wordsOf(String line) {
        if (line.startsWith("#") || line.startsWith("==") || line.startsWith("```")) {
            return "";
        }
        int head = line.startsWith("`") ? line.indexOf("`: ") : -1;
        String words = (head < 0 ? line : line.substring(head + 3)).strip();
        return words.startsWith("- `") && !words.startsWith("- `what`") ? "" : words;
    }
}
