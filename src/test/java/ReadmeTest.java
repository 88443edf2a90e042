import java.io.File;
import java.io.IOException;
import java.lang.reflect.Method;
import java.lang.reflect.Modifier;
import java.nio.file.Files;
import java.nio.file.Path;
import java.util.Set;
import java.util.TreeSet;
import java.util.regex.Matcher;
import java.util.regex.Pattern;

/** README.md tells true answers, and names every method and every test. */
public final class ReadmeTest {
    private static final Pattern EXAMPLE =
        Pattern.compile("(?m)^sums\\.(\\w+)\\(([^)]*)\\);\\s*// (-?\\d+)");
    private static final Pattern CALL = Pattern.compile("(?m)^sums\\.");
    private static final Pattern ROW = Pattern.compile("(?m)^\\| `(\\w+)\\(([^)]*)\\)` \\|");
    private static final Check CHECK = new Check();

    public static void main(String[] args) throws IOException {
        Path readme = Path.of(args[2]);
        String text = Files.readString(readme);
        exampleHolds(text);
        methodsAreNamed(text);
        testsAreNamed(text, readme.resolveSibling("src/test/java").toFile());
        CHECK.end();
    }

    private static void exampleHolds(String text) {
        Run run = new Run(CHECK, "README.md");
        Matcher line = EXAMPLE.matcher(text);
        long lines = 0;
        while (line.find()) {
            run.due(Long.parseLong(line.group(3)), line.group(1), numbers(line.group(2)));
            lines++;
        }
        CHECK.holds("README.md has an example", lines > 0);
        CHECK.due("calls with an answer behind them", lines, CALL.matcher(text).results().count());
    }

    private static void methodsAreNamed(String text) {
        Set<String> told = new TreeSet<>();
        Matcher row = ROW.matcher(text);
        while (row.find()) {
            told.add(row.group(1) + " of " + split(row.group(2)).length);
        }
        Set<String> due = new TreeSet<>();
        for (Method method : FarSums.class.getDeclaredMethods()) {
            if (Modifier.isPublic(method.getModifiers())) {
                due.add(method.getName() + " of " + method.getParameterCount());
            }
        }
        CHECK.holds("README.md tells of " + due + ", not " + told, told.equals(due));
    }

    private static void testsAreNamed(String text, File folder) {
        String[] files = folder.list((in, name) -> name.endsWith("Test.java"));
        CHECK.holds("there are tests in " + folder, files != null && files.length > 0);
        for (String file : files == null ? new String[0] : files) {
            String name = file.substring(0, file.length() - ".java".length());
            CHECK.holds("README.md names " + name, text.contains("`" + name + "`"));
        }
    }

    private static String[] split(String list) {
        return list.isEmpty() ? new String[0] : list.split(", ");
    }

    private static long[] numbers(String list) {
        String[] each = split(list);
        long[] all = new long[each.length];
        for (int n = 0; n < each.length; n++) {
            all[n] = Long.parseLong(each[n]);
        }
        return all;
    }
}
