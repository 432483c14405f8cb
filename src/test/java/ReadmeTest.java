import java.io.IOException;
import java.lang.reflect.InvocationTargetException;
import java.lang.reflect.Method;
import java.nio.file.Files;
import java.nio.file.Path;
import java.util.ArrayList;
import java.util.List;
import java.util.Set;
import java.util.TreeSet;
import java.util.regex.Matcher;
import java.util.regex.Pattern;

/** README.md: its examples answer as it says, and its tables name every call and every test. */
public final class ReadmeTest {
    private static final Pattern EXAMPLE = Pattern.compile("(?s)```java\n(.*?)```");
    private static final Pattern CALL =
            Pattern.compile("x\\.(\\w+)\\(([^)]*)\\);\\s+// (throws \\w+|-?\\d+|true|false)(: .*)?");
    private static final Pattern FACE = Pattern.compile("    public (?:int|boolean) (\\w+)\\(([^)]*)\\)");
    private static final Pattern TOLD_CALL = Pattern.compile("(?m)^\\| `(\\w+\\([^`]*\\))` \\|");
    private static final Pattern TOLD_TEST = Pattern.compile("(?m)^\\| `(\\w+Test)` \\|");

    public static void main(String[] args) throws IOException {
        String page = Files.readString(Path.of("README.md"));
        Matcher example = EXAMPLE.matcher(page);
        int examples = 0;
        while (example.find()) {
            examples++;
            playExample("example " + examples, example.group(1).split("\n"));
        }
        Check.due("how many examples there are", examples, 3);
        Check.due("the calls of the tables", all(TOLD_CALL, page), faceOfTheClass());
        Check.due("the tests of the table", all(TOLD_TEST, page), testsThatAreThere());
        Check.end("ReadmeTest");
    }

    private static void playExample(String name, String[] lines) {
        Check.due(name + ", its first line", lines[0], "Rotaforge x = new Rotaforge();");
        Rotaforge x = new Rotaforge();
        for (int i = 1; i < lines.length; i++) {
            Matcher call = CALL.matcher(lines[i]);
            boolean isCall = call.matches();
            Check.due(name + ", whether this is a call with its answer: " + lines[i], isCall, true);
            if (isCall) {
                String want = call.group(3).replace("throws ", "throws.");
                Check.due(name + ": " + lines[i], answer(x, call.group(1), call.group(2)), want);
            }
        }
    }

    private static String answer(Rotaforge x, String name, String written) {
        for (Method each : Rotaforge.class.getMethods()) {
            if (each.getDeclaringClass() == Rotaforge.class && each.getName().equals(name)) {
                return answer(x, each, arguments(written));
            }
        }
        return "there is no such call";
    }

    private static String answer(Rotaforge x, Method method, Object[] arguments) {
        try {
            return String.valueOf(method.invoke(x, arguments));
        } catch (InvocationTargetException e) {
            return "throws." + e.getCause().getClass().getSimpleName();
        } catch (IllegalAccessException | IllegalArgumentException e) {
            return "the call does not fit: " + e.getMessage();
        }
    }

    private static Object[] arguments(String written) {
        List<Object> found = new ArrayList<>();
        for (String each : written.isEmpty() ? new String[0] : written.split(", ")) {
            boolean isNumber = each.matches("-?\\d+");
            found.add(isNumber ? (Object) Integer.valueOf(each) : (Object) Boolean.valueOf(each));
        }
        return found.toArray();
    }

    private static Set<String> all(Pattern pattern, String page) {
        Set<String> found = new TreeSet<>();
        Matcher each = pattern.matcher(page);
        while (each.find()) {
            found.add(each.group(1));
        }
        return found;
    }

    /** Each public method with the names of its parameters, as its source has them. */
    private static Set<String> faceOfTheClass() throws IOException {
        Set<String> face = new TreeSet<>();
        Matcher each = FACE.matcher(Files.readString(Path.of("src/main/java/Rotaforge.java")));
        while (each.find()) {
            face.add(each.group(1) + "(" + each.group(2).replaceAll("(int|boolean) ", "") + ")");
        }
        return face;
    }

    private static Set<String> testsThatAreThere() {
        String[] files = Path.of("src/test/java").toFile().list();
        Set<String> tests = new TreeSet<>();
        for (String each : files == null ? new String[0] : files) {
            if (each.endsWith("Test.java")) {
                tests.add(each.substring(0, each.length() - ".java".length()));
            }
        }
        return tests;
    }
}
