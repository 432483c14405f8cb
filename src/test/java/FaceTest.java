import java.io.IOException;
import java.lang.reflect.Constructor;
import java.lang.reflect.Field;
import java.lang.reflect.Method;
import java.lang.reflect.Modifier;
import java.nio.charset.StandardCharsets;
import java.nio.file.Files;
import java.nio.file.Path;
import java.util.ArrayList;
import java.util.Arrays;
import java.util.HashSet;
import java.util.List;
import java.util.Set;
import java.util.regex.Matcher;
import java.util.regex.Pattern;
import java.util.stream.Collectors;

/** The face has the document's members and no others, and the file keeps to the language's rules. */
public final class FaceTest {
    private static final String INDEX = " throws IndexOutOfBoundsException";
    private static final String STATE = " throws IllegalStateException";
    private static final String INDEX_STATE = INDEX + ", IllegalStateException";
    private static final String ALL = INDEX + ", IllegalArgumentException, IllegalStateException";

    /** As the document has it, with what the interface says ahead of some calls. */
    private static final List<String> FACE = List.of(
            "---- what there is",
            "int build()" + STATE,
            "int defect(int version, int control, boolean isOn)" + INDEX_STATE,
            "int need(int control, int other, boolean needs)" + ALL,
            "---- changes",
            "int turn(int person, int control, int level)" + ALL,
            "int roll(int person, int ring, int version)" + INDEX_STATE,
            "int revert(int person, int change)" + INDEX_STATE,
            "---- weeks and time",
            "int takeOver(int person)" + INDEX_STATE,
            "int pass(int halves) throws IllegalArgumentException, IllegalStateException",
            "int time()",
            "int holder(int week)" + INDEX,
            "int near(int person)" + INDEX,
            "int blots(int person)" + INDEX,
            "boolean rests(int person)" + INDEX,
            "int onCall()",
            "int calls(int person, boolean isNight)" + INDEX,
            "int missed()",
            "---- rings and switches as they are",
            "int versions()",
            "int version(int ring)" + INDEX,
            "int level(int control)" + INDEX,
            "boolean isOn(int control, int ring)" + INDEX,
            "boolean isFaulty(int ring)" + INDEX,
            "int rollable(int ring)" + INDEX,
            "---- changes and incidents",
            "int changes()",
            "int change(int change)" + INDEX,
            "int madeAt(int change)" + INDEX,
            "boolean heals(int change, int ring)" + INDEX,
            "int trace(int ring)" + INDEX,
            "int traceByTrying(int ring)" + INDEX,
            "int incidents()",
            "int openIn(int ring)" + INDEX,
            "int openedAt(int incident)" + INDEX,
            "int closedAt(int incident)" + INDEX,
            "int tracedTo(int incident)" + INDEX,
            "int firstCalled(int incident)" + INDEX);

    private static final Pattern TOLD =
            Pattern.compile("// (---- [a-z ]+)|    public ((?:int|boolean) [^{;=]*) \\{");

    public static void main(String[] args) throws IOException {
        classAndConstructor();
        methods();
        faceInItsOrder();
        fields();
        source();
        Check.end("FaceTest");
    }

    private static void classAndConstructor() {
        Check.due("the class is public and final", Modifier.toString(Rotaforge.class.getModifiers()), "public final");
        Constructor<?>[] constructors = Rotaforge.class.getDeclaredConstructors();
        Check.due("constructors", constructors.length, 1);
        Check.due("the constructor", constructors[0].toString(), "public Rotaforge()");
    }

    private static String signature(Method method) {
        String parameters = Arrays.stream(method.getParameterTypes()).map(Class::getSimpleName)
                .collect(Collectors.joining(", "));
        String thrown = Arrays.stream(method.getExceptionTypes()).map(Class::getSimpleName)
                .collect(Collectors.joining(", "));
        return method.getReturnType().getSimpleName() + " " + method.getName() + "(" + parameters + ")"
                + (thrown.isEmpty() ? "" : " throws " + thrown);
    }

    private static void methods() {
        Set<String> found = new HashSet<>();
        Set<String> faceNames = new HashSet<>();
        List<String> others = new ArrayList<>();
        for (Method each : Rotaforge.class.getDeclaredMethods()) {
            if (each.getModifiers() == Modifier.PUBLIC) {
                found.add(signature(each));
                faceNames.add(each.getName());
            } else if (!Modifier.isPrivate(each.getModifiers())) {
                others.add(signature(each));
            }
        }
        Check.due("the public methods", found, typesOfTheFace());
        Check.due("methods that are neither public nor private", others, List.of());
        for (Method each : Rotaforge.class.getDeclaredMethods()) {
            boolean isSameName = Modifier.isPrivate(each.getModifiers()) && faceNames.contains(each.getName());
            Check.due("a private method with a public name: " + each.getName(), isSameName, false);
        }
    }

    private static Set<String> typesOfTheFace() {
        return FACE.stream().filter(each -> !each.startsWith("----"))
                .map(each -> each.replaceAll("(int|boolean) \\w+(?=[,)])", "$1")).collect(Collectors.toSet());
    }

    /** The calls with the names of their parameters, in their order, and what is said ahead of them. */
    private static void faceInItsOrder() throws IOException {
        List<String> found = new ArrayList<>();
        Matcher told = TOLD.matcher(Files.readString(Path.of("src/main/java/Rotaforge.java")));
        while (told.find()) {
            found.add(told.group(1) != null ? told.group(1) : told.group(2).replaceAll("\\s+", " "));
        }
        for (int i = 0; i < FACE.size(); i++) {
            Check.due("the face, line " + i, i < found.size() ? found.get(i) : "none", FACE.get(i));
        }
    }

    private static void fields() {
        Check.due("NONE", Rotaforge.NONE, -1);
        for (Field each : Rotaforge.class.getDeclaredFields()) {
            int modifiers = each.getModifiers();
            boolean isConstant = each.getName().equals("NONE");
            Check.due(each.getName() + " is private", Modifier.isPrivate(modifiers), !isConstant);
            if (Modifier.isStatic(modifiers)) {
                Check.due(each.getName() + " is final", Modifier.isFinal(modifiers), true);
            }
        }
    }

    private static void source() throws IOException {
        byte[] bytes = Files.readAllBytes(Path.of("src/main/java/Rotaforge.java"));
        for (byte each : bytes) {
            if (each <= 0) {
                Check.due("a sign of the file", (int) each, "1 to 127");
            }
        }
        String text = new String(bytes, StandardCharsets.ISO_8859_1);
        String code = text.replaceAll("(?s)/\\*.*?\\*/", "").replaceAll("//[^\n]*", "");
        for (String word : List.of("import", "package", "->", "::", "catch", "finally", "assert", "synchronized",
                "System", "Exact", "\" +", "+ \"", "float", "double", "volatile", "native", "static {")) {
            Check.due("the file has " + word, code.contains(word), false);
        }
    }
}
