import java.io.File;
import java.io.IOException;
import java.lang.reflect.Method;
import java.lang.reflect.Modifier;
import java.nio.file.Files;
import java.nio.file.Path;
import java.util.Arrays;
import java.util.HashMap;
import java.util.List;
import java.util.Map;
import java.util.regex.Matcher;
import java.util.regex.Pattern;

/** README.md tells the class and its tests as they are; run from the project's folder. */
public final class ReadmeTest {
    private static final Dues DUES = new Dues("ReadmeTest");
    private static final Pattern ANSWER = Pattern.compile("println\\(region\\.(\\w+)\\((.*)\\)\\); +// (-?\\d+)");
    private static final Pattern ROW = Pattern.compile("\\| `(\\w+)\\(([^)]*)\\)` \\|(.*)\\|");
    private static final List<Class<?>> COLUMNS = List.of(Rides.INDEX, Rides.ARGUMENT, Rides.STATE);

    public static void main(String[] args) throws IOException {
        List<String> lines = Files.readAllLines(Path.of("README.md"));
        example(lines);
        methods(lines);
        howToUse(String.join(" ", lines));
        tests(String.join(" ", lines));
        DUES.end();
    }

    private static void example(List<String> lines) {
        TapCap region = new TapCap();
        int answers = 0;
        for (String line : lines) {
            Matcher matcher = ANSWER.matcher(line);
            if (matcher.find()) {
                Call call = Call.of(matcher.group(1), numbers(matcher.group(2)));
                String got = call.on(region);
                DUES.isTrue(call + " answered " + got + ", README.md says " + matcher.group(3) + ", that",
                        got.equals(matcher.group(3)));
                answers++;
            } else {
                DUES.isTrue("an answer stands behind: " + line, !line.contains("println(region."));
            }
        }
        DUES.isTrue("there is an example", answers > 0);
        DUES.refuses("the card 7 of the example", Rides.INDEX, () -> region.tap(7, 0, 0, true, 0, 500));
    }

    private static int[] numbers(String list) {
        return list.isEmpty() ? new int[0] : Arrays.stream(list.split(", "))
                .mapToInt(one -> one.equals("true") ? 1 : one.equals("false") ? 0 : Integer.parseInt(one)).toArray();
    }

    private static void methods(List<String> lines) {
        Map<String, Matcher> rows = new HashMap<>();
        for (String line : lines) {
            Matcher row = ROW.matcher(line);
            if (row.matches()) {
                DUES.isTrue(row.group(1) + " has one row", rows.put(row.group(1), row) == null);
            }
        }
        for (Method method : TapCap.class.getDeclaredMethods()) {
            if (Modifier.isPublic(method.getModifiers())) {
                Matcher row = rows.remove(method.getName());
                DUES.isTrue(method.getName() + " has a row", row != null);
                if (row != null) {
                    toldAsItIs(method, row);
                }
            }
        }
        DUES.isTrue("no other methods are told, such as " + rows.keySet() + ": that", rows.isEmpty());
    }

    private static void toldAsItIs(Method method, Matcher row) {
        int arguments = row.group(2).isEmpty() ? 0 : row.group(2).split(", ").length;
        DUES.due("arguments of " + method.getName(), arguments, method.getParameterCount());
        String[] cells = row.group(3).split("\\|");
        DUES.due("cells of " + method.getName(), cells.length, COLUMNS.size() + 1);
        for (int i = 0; i <= COLUMNS.size() && i < cells.length; i++) {
            boolean isDue = i == 0 || Arrays.asList(method.getExceptionTypes()).contains(COLUMNS.get(i - 1));
            DUES.isTrue("cell " + i + " of " + method.getName() + " says something: " + isDue + ", that",
                    cells[i].isBlank() != isDue);
        }
    }

    private static void howToUse(String text) {
        DUES.isTrue("how an object is made", text.contains("`new TapCap()`"));
        DUES.isTrue("for how many calls", text.contains("at most 512 calls"));
        for (Class<?> exception : COLUMNS) {
            DUES.isTrue(exception.getSimpleName() + " is named", text.contains("`" + exception.getSimpleName() + "`"));
        }
    }

    private static void tests(String text) {
        DUES.isTrue(".ci/run is told, and can be run", text.contains(" .ci/run ") && new File(".ci/run").canExecute());
        DUES.isTrue("../shared/tests is told", text.contains("`../shared/tests`"));
        String[] files = new File("src/test/java").list((folder, name) -> name.endsWith("Test.java"));
        DUES.isTrue("there are tests", files != null && files.length > 0);
        for (String file : files == null ? new String[0] : files) {
            String name = file.substring(0, file.length() - ".java".length());
            DUES.isTrue(name + " is told", text.contains("`" + name + "`"));
        }
    }
}
