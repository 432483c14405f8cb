import java.io.IOException;
import java.lang.reflect.Constructor;
import java.lang.reflect.Field;
import java.lang.reflect.Method;
import java.lang.reflect.Modifier;
import java.nio.charset.StandardCharsets;
import java.nio.file.Files;
import java.nio.file.Path;
import java.util.ArrayList;
import java.util.Arrays;
import java.util.HashSet;
import java.util.List;
import java.util.Set;
import java.util.stream.Collectors;

/** The face has the document's members and no others, and the file keeps to the language's rules. */
public final class FaceTest {
    private static final String INDEX = " throws IndexOutOfBoundsException";
    private static final String STATE = " throws IllegalStateException";
    private static final String INDEX_STATE = INDEX + ", IllegalStateException";
    private static final String ALL = INDEX + ", IllegalArgumentException, IllegalStateException";

    private static final List<String> FACE = List.of(
            "int build()" + STATE,
            "int defect(int, int, boolean)" + INDEX_STATE,
            "int need(int, int, boolean)" + ALL,
            "int turn(int, int, int)" + ALL,
            "int roll(int, int, int)" + INDEX_STATE,
            "int revert(int, int)" + INDEX_STATE,
            "int takeOver(int)" + INDEX_STATE,
            "int pass(int) throws IllegalArgumentException, IllegalStateException",
            "int time()",
            "int holder(int)" + INDEX,
            "int near(int)" + INDEX,
            "int blots(int)" + INDEX,
            "boolean rests(int)" + INDEX,
            "int onCall()",
            "int calls(int, boolean)" + INDEX,
            "int missed()",
            "int versions()",
            "int version(int)" + INDEX,
            "int level(int)" + INDEX,
            "boolean isOn(int, int)" + INDEX,
            "boolean isFaulty(int)" + INDEX,
            "int rollable(int)" + INDEX,
            "int changes()",
            "int change(int)" + INDEX,
            "int madeAt(int)" + INDEX,
            "boolean heals(int, int)" + INDEX,
            "int trace(int)" + INDEX,
            "int traceByTrying(int)" + INDEX,
            "int incidents()",
            "int openIn(int)" + INDEX,
            "int openedAt(int)" + INDEX,
            "int closedAt(int)" + INDEX,
            "int tracedTo(int)" + INDEX,
            "int firstCalled(int)" + INDEX);

    public static void main(String[] args) throws IOException {
        classAndConstructor();
        methods();
        fields();
        source();
        Check.end("FaceTest");
    }

    private static void classAndConstructor() {
        Check.due("the class is public and final", Modifier.toString(Rotaforge.class.getModifiers()), "public final");
        Constructor<?>[] constructors = Rotaforge.class.getDeclaredConstructors();
        Check.due("constructors", constructors.length, 1);
        Check.due("the constructor", constructors[0].toString(), "public Rotaforge()");
    }

    private static String signature(Method method) {
        String parameters = Arrays.stream(method.getParameterTypes()).map(Class::getSimpleName)
                .collect(Collectors.joining(", "));
        String thrown = Arrays.stream(method.getExceptionTypes()).map(Class::getSimpleName)
                .collect(Collectors.joining(", "));
        return method.getReturnType().getSimpleName() + " " + method.getName() + "(" + parameters + ")"
                + (thrown.isEmpty() ? "" : " throws " + thrown);
    }

    private static void methods() {
        Set<String> found = new HashSet<>();
        Set<String> faceNames = new HashSet<>();
        List<String> others = new ArrayList<>();
        for (Method each : Rotaforge.class.getDeclaredMethods()) {
            if (each.getModifiers() == Modifier.PUBLIC) {
                found.add(signature(each));
                faceNames.add(each.getName());
            } else if (!Modifier.isPrivate(each.getModifiers())) {
                others.add(signature(each));
            }
        }
        Check.due("the public methods", found, new HashSet<>(FACE));
        Check.due("methods that are neither public nor private", others, List.of());
        for (Method each : Rotaforge.class.getDeclaredMethods()) {
            boolean isSameName = Modifier.isPrivate(each.getModifiers()) && faceNames.contains(each.getName());
            Check.due("a private method with a public name: " + each.getName(), isSameName, false);
        }
    }

    private static void fields() {
        for (Field each : Rotaforge.class.getDeclaredFields()) {
            int modifiers = each.getModifiers();
            boolean isConstant = each.getName().equals("NONE");
            Check.due(each.getName() + " is private", Modifier.isPrivate(modifiers), !isConstant);
            if (Modifier.isStatic(modifiers)) {
                Check.due(each.getName() + " is final", Modifier.isFinal(modifiers), true);
            }
        }
    }

    private static void source() throws IOException {
        byte[] bytes = Files.readAllBytes(Path.of("src/main/java/Rotaforge.java"));
        for (byte each : bytes) {
            if (each <= 0) {
                Check.due("a sign of the file", (int) each, "1 to 127");
            }
        }
        String text = new String(bytes, StandardCharsets.ISO_8859_1);
        String code = text.replaceAll("(?s)/\\*.*?\\*/", "").replaceAll("//[^\n]*", "");
        for (String word : List.of("import", "package", "->", "::", "catch", "finally", "assert", "synchronized",
                "System", "Exact", "\" +", "+ \"", "float", "double", "volatile", "native", "static {")) {
            Check.due("the file has " + word, code.contains(word), false);
        }
    }
}
