import java.io.IOException;
import java.lang.reflect.Method;
import java.nio.file.Files;
import java.nio.file.Path;
import java.util.Arrays;
import java.util.Comparator;
import java.util.regex.Pattern;

/**
 * Tests of single sentences of the document. Each begins by quoting its sentence, and a quote
 * that does not stand in the document is told as wrong too.
 */
final class Sentences {
    /** Between two pieces of one sentence that stand apart in the document. */
    private static final String APART = " | ";

    private final Check check = new Check();
    private String document = "";
    private int quotes = 0;

    /** A new object, for a test of the sentence. */
    Run says(String sentence) {
        quotes++;
        if (!document.isEmpty()) {
            for (String piece : sentence.split(Pattern.quote(APART))) {
                check.holds("the document says \"" + piece + "\"", document.contains(piece));
            }
        }
        return new Run(check, sentence);
    }

    /** Every static method of a class without parameters is a test: none can be left out. */
    void runAll(Class<?> tests, String[] args) throws ReflectiveOperationException, IOException {
        readDocument(args);
        Method[] methods = tests.getDeclaredMethods();
        Arrays.sort(methods, Comparator.comparing(Method::getName));
        int ran = 0;
        for (Method method : methods) {
            if (method.getParameterCount() == 0 && !method.isSynthetic()) {
                int before = quotes;
                method.invoke(null);
                check.holds(method.getName() + " quotes its sentence", quotes > before);
                ran++;
            }
        }
        System.out.println(ran + " tests of sentences");
        check.end();
    }

    private void readDocument(String[] args) throws IOException {
        if (args.length > 0 && Files.isReadable(Path.of(args[0]))) {
            document = Files.readString(Path.of(args[0])).replaceAll("\\s+", " ");
        } else {
            System.out.println("no document is given: quotes are not held against it");
        }
    }
}
