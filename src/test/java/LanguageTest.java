import java.io.IOException;
import java.nio.file.Files;
import java.nio.file.Path;
import java.util.List;
import java.util.regex.Matcher;
import java.util.regex.Pattern;

/** What of LANGUAGE.md can be seen in the text of the program; run from the project's folder. */
public final class LanguageTest {
    private static final Dues DUES = new Dues("LanguageTest");
    private static final Path PROGRAM = Path.of("src", "main", "java", "TapCap.java");
    private static final int MOST_LINES = 60;
    private static final int MOST_PARAMETERS = 7;
    private static final String[] REFUSED = {"^import (?!java\\.util\\.)", "^package\\b",
        "^(?!\\s*(case|default)\\b).*->", "::", "\\bfinally\\b", "\\bassert\\b", "\\bsynchronized\\b", "\\bSystem\\.(?!arraycopy)",
        "\\bThread\\b", "Exact\\b", "\\bhashCode\\b", "\\b[Rr]andom\\b", "^static \\{", "\\[\\]\\[\\]\\[\\]",
        "\" *\\+", "\\+ *\"", "[^\\x00-\\x7f]"};

    public static void main(String[] args) throws IOException {
        List<String> lines = Files.readAllLines(PROGRAM);
        for (String pattern : REFUSED) {
            refused(lines, Pattern.compile(pattern));
        }
        // Another build of the class would have to be looked through for these two by other marks.
        if (lines.stream().anyMatch(line -> line.contains("class Row "))) {
            indices(lines);
            divisors(lines);
        }
        methods(lines);
        DUES.end();
    }

    private static void refused(List<String> lines, Pattern pattern) {
        for (int i = 0; i < lines.size(); i++) {
            String code = withoutComment(lines.get(i));
            DUES.isTrue("line " + (i + 1) + " without " + pattern, !pattern.matcher(code).find());
        }
    }

    /** Arrays are used in Row alone, and there behind a test of the index. */
    private static void indices(List<String> lines) {
        for (int i = 0; i < lines.size(); i++) {
            if (withoutComment(lines.get(i)).contains("cells[")) {
                String near = lines.get(i) + (i > 0 ? lines.get(i - 1) : "");
                DUES.isTrue("line " + (i + 1) + " tests its index", near.contains("< cells.length"));
            } else {
                String code = withoutComment(lines.get(i)).replace("int[]", "").replace("new int[length", "");
                DUES.isTrue("line " + (i + 1) + " has no index", !code.contains("["));
            }
        }
    }

    /** A divisor is a constant, or tested in the same line. */
    private static void divisors(List<String> lines) {
        Pattern division = Pattern.compile("[/%]\\s*([A-Za-z_0-9]+)");
        for (int i = 0; i < lines.size(); i++) {
            Matcher matcher = division.matcher(withoutComment(lines.get(i)));
            while (matcher.find()) {
                String by = matcher.group(1);
                boolean isSafe = by.matches("[1-9][0-9]*|[A-Z_]+") || lines.get(i).contains(by + " > 0 ?");
                DUES.isTrue("line " + (i + 1) + ": the divisor " + by + " is tested", isSafe);
            }
        }
    }

    private static void methods(List<String> lines) {
        Pattern head = Pattern.compile("^(    |        )(?!new |return |else |private static final class)"
                + "[A-Za-z][A-Za-z ]*[ (]?[A-Za-z]+\\(([^)]*)\\).*");
        for (int i = 0; i < lines.size(); i++) {
            Matcher matcher = head.matcher(lines.get(i));
            if (matcher.matches() && !lines.get(i).endsWith(";")) {
                String end = matcher.group(1) + "}";
                int last = i;
                while (last < lines.size() && !lines.get(last).equals(end)) {
                    last++;
                }
                DUES.isTrue("the method of line " + (i + 1) + " is short", last - i < MOST_LINES);
                int parameters = matcher.group(2).isEmpty() ? 0 : matcher.group(2).split(",").length;
                DUES.isTrue("it takes few parameters", parameters <= MOST_PARAMETERS);
            }
        }
    }

    private static String withoutComment(String line) {
        String code = line.strip();
        if (code.startsWith("//") || code.startsWith("/*") || code.startsWith("*")) {
            return "";
        }
        int comment = code.indexOf("//");
        return comment < 0 ? code : code.substring(0, comment);
    }
}
