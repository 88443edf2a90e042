import java.io.IOException;
import java.lang.reflect.Field;
import java.lang.reflect.Method;
import java.lang.reflect.Modifier;
import java.nio.file.Files;
import java.nio.file.Path;
import java.util.ArrayList;
import java.util.List;
import java.util.Set;
import java.util.regex.Matcher;
import java.util.regex.Pattern;

/**
 * The rules of ../shared/LANGUAGE.md that can be seen in the source and the compiled class,
 * held as strictly as FarSums keeps them: it uses less than the rules would let it.
 */
public final class LanguageTest {
    private static final int MOST_LINES = 60, MOST_PARAMETERS = 7, MOST_CLASSES = 12, MOST_FIELDS = 20;
    private static final Pattern COMMENT = Pattern.compile("(?s)/\\*.*?\\*/|//[^\n]*");
    private static final Pattern OUTSIDE = Pattern.compile(
        "\\b(package|import|throw|throws|try|catch|finally|synchronized|assert|instanceof|native"
        + "|Object|Thread|Random|double|float)\\b|->|::|\\bstatic\\s*\\{");
    private static final Pattern LIBRARY = Pattern.compile("\\b([A-Z]\\w*[a-z]\\w*)\\s*\\.\\s*(\\w+)");
    private static final Pattern MAKES = Pattern.compile("\\bnew\\b|\\.clone\\(");
    private static final Pattern KEPT_ROW = Pattern.compile(
        "(private )?final \\S+ \\w+ = new (\\w+\\[\\w+\\]|\\w+\\(\\));");
    private static final Pattern IN_CONSTRUCTOR = Pattern.compile("\\w+ = new \\w+\\([\\w, ]*\\);");
    private static final Pattern METHOD = Pattern.compile(
        "(?m)^ +(?:(?:public|private|static) )*(?!public )\\w+(?:\\[\\])* (\\w+)\\([^)]*\\) \\{$");
    private static final Set<String> STATIC_TYPES = Set.of("int", "long", "boolean", "char",
        "String", "int[]", "long[]", "char[]", "byte[]");
    private static final Check CHECK = new Check();

    public static void main(String[] args) throws IOException {
        String code = withoutComments(Files.readString(Path.of(args[1])));
        words(code);
        library(code);
        makesNothingInCalls(code);
        methodLines(code);
        shapes();
        CHECK.end();
    }

    /** Lines stay where they are. */
    private static String withoutComments(String source) {
        return COMMENT.matcher(source).replaceAll(found -> found.group().replaceAll("[^\n]", ""));
    }

    private static void words(String code) {
        Matcher found = OUTSIDE.matcher(code);
        boolean any = found.find();
        CHECK.holds("outside the rules: " + (any ? found.group() : ""), !any);
    }

    private static void library(String code) {
        Matcher found = LIBRARY.matcher(code);
        while (found.find()) {
            CHECK.holds("the library has " + found.group(),
                found.group(1).equals("Math") && Set.of("abs", "max", "min").contains(found.group(2)));
        }
    }

    /** Rule 12: all rows are made with the object, so no run of calls can fill the room. */
    private static void makesNothingInCalls(String code) {
        String head = "";
        for (String line : code.split("\n")) {
            String plain = line.strip();
            if (plain.endsWith("{")) {
                head = plain;
            }
            if (MAKES.matcher(plain).find()) {
                CHECK.holds("made in a call: " + plain,
                    head.contains(" class ") && KEPT_ROW.matcher(plain).matches()
                    || head.equals("public FarSums() {") && IN_CONSTRUCTOR.matcher(plain).matches());
            }
        }
    }

    private static void methodLines(String code) {
        Matcher head = METHOD.matcher(code);
        int found = 0;
        while (head.find()) {
            long lines = code.substring(head.start(), endOfBlock(code, head.end())).lines().count();
            CHECK.holds(head.group(1) + " has " + lines + " lines", lines <= MOST_LINES);
            found++;
        }
        CHECK.due("methods found in the source", found, allMethods());
    }

    private static int endOfBlock(String code, int start) {
        int open = 1;
        int at = start;
        while (open > 0 && at < code.length()) {
            char c = code.charAt(at);
            open += c == '{' ? 1 : c == '}' ? -1 : 0;
            at++;
        }
        return at;
    }

    private static int allMethods() {
        int all = 0;
        for (Class<?> one : classes()) {
            all += one.getDeclaredMethods().length;
        }
        return all;
    }

    private static List<Class<?>> classes() {
        List<Class<?>> all = new ArrayList<>(List.of(FarSums.class.getDeclaredClasses()));
        all.add(FarSums.class);
        return all;
    }

    private static void shapes() {
        CHECK.holds("not too many classes", classes().size() <= MOST_CLASSES);
        for (Class<?> one : classes()) {
            CHECK.due("classes inside " + one + " beside FarSums",
                one == FarSums.class ? 0 : one.getDeclaredClasses().length, 0);
            for (Method method : one.getDeclaredMethods()) {
                CHECK.holds(method + " has few parameters",
                    method.getParameterCount() <= MOST_PARAMETERS);
            }
            fields(one);
        }
    }

    private static void fields(Class<?> one) {
        int own = 0;
        for (Field field : one.getDeclaredFields()) {
            if (Modifier.isStatic(field.getModifiers())) {
                CHECK.holds(field + " is a constant", Modifier.isFinal(field.getModifiers())
                    && STATIC_TYPES.contains(field.getType().getSimpleName()));
            } else {
                own++;
            }
        }
        CHECK.holds(one + " has few fields", own <= MOST_FIELDS);
    }
}
