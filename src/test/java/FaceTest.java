import java.io.IOException;
import java.lang.reflect.Constructor;
import java.lang.reflect.Field;
import java.lang.reflect.Method;
import java.lang.reflect.Modifier;
import java.nio.charset.StandardCharsets;
import java.nio.file.Files;
import java.nio.file.Path;
import java.util.Set;
import java.util.TreeSet;

/** The public face of the class, and the rules of LANGUAGE.md that can be seen from the outside. */
public final class FaceTest {
    private static final Check check = new Check();
    private static final String INDEX = " throws IndexOutOfBoundsException";
    private static final String ARGUMENT = " throws IllegalArgumentException";
    private static final String STATE = " throws IllegalStateException";
    private static final String BOTH = " throws IndexOutOfBoundsException, IllegalArgumentException";

    private static final Set<String> FACE = Set.of(
        "int come(int, int)" + BOTH + ", IllegalStateException",
        "int turn(int, int)" + INDEX,
        "int press(int)" + INDEX,
        "int sensor(int, boolean)" + INDEX,
        "int night(boolean)",
        "int fire(boolean)",
        "int set(int, int)" + BOTH,
        "int pass(int)" + ARGUMENT,
        "int append(int)" + ARGUMENT + ", IllegalStateException",
        "int clearBuffer()",
        "int firstError()",
        "int comeAll()" + ARGUMENT,
        "int undo()" + STATE,
        "int floor(int, int)" + BOTH,
        "int person(int, int)" + ARGUMENT,
        "int count(int)" + ARGUMENT,
        "int setting(int)" + INDEX,
        "int ifPassed(int, int)" + ARGUMENT,
        "int dark(int, int)" + BOTH,
        "int leastTime(int, int)" + BOTH,
        "int worst()",
        "double lightness()",
        "long digest()");

    /** What the program must do without; the words of comments are left out before. */
    private static final String[] FORBIDDEN = {"import ", "package ", "catch", "try ", "finally", "->", "::",
        "Double", "Float", "Object", "synchronized", "assert", "instanceof", "System.", "Math.sqrt", "static {",
        "new Thread", "equals(", "hashCode", "toString", "Exact("};

    public static void main(String[] args) throws IOException {
        theClass();
        theMembers();
        theClassesInside();
        theWords(args.length > 0 ? args[0] : "src/main/java/StairLight.java");
        check.end("FaceTest");
    }

    private static void theClass() {
        int modifiers = StairLight.class.getModifiers();
        check.isTrue("public final", Modifier.isPublic(modifiers) && Modifier.isFinal(modifiers));
        check.isTrue("without a package", StairLight.class.getPackageName().isEmpty());
        check.equal("P1 one constructor", StairLight.class.getDeclaredConstructors().length, 1);
        Constructor<?> made = StairLight.class.getDeclaredConstructors()[0];
        check.isTrue("P1 public, without arguments",
            Modifier.isPublic(made.getModifiers()) && made.getParameterCount() == 0);
    }

    private static void theMembers() {
        Set<String> found = new TreeSet<>();
        Set<String> names = new TreeSet<>();
        for (Method method : StairLight.class.getDeclaredMethods()) {
            if (!Modifier.isPrivate(method.getModifiers())) {
                found.add(textOf(method));
                names.add(method.getName());
            }
        }
        check.isTrue("the methods are those of the document: " + found, found.equals(FACE));
        for (Method method : StairLight.class.getDeclaredMethods()) {
            check.isTrue("no private method is called " + method.getName(),
                !Modifier.isPrivate(method.getModifiers()) || !names.contains(method.getName()));
        }
        for (Field field : StairLight.class.getDeclaredFields()) {
            boolean isConstant = field.getName().equals("NONE") && Modifier.isPublic(field.getModifiers());
            check.isTrue("a private field: " + field, isConstant || Modifier.isPrivate(field.getModifiers()));
            check.isTrue("a static field is final: " + field,
                !Modifier.isStatic(field.getModifiers()) || Modifier.isFinal(field.getModifiers()));
        }
    }

    private static String textOf(Method method) {
        StringBuilder text = new StringBuilder(method.getReturnType().getName());
        text.append(' ').append(method.getName()).append('(').append(namesOf(method.getParameterTypes())).append(')');
        String thrown = namesOf(method.getExceptionTypes());
        return text.append(thrown.isEmpty() ? "" : " throws ").append(thrown).toString();
    }

    private static String namesOf(Class<?>[] classes) {
        StringBuilder text = new StringBuilder();
        for (Class<?> one : classes) {
            text.append(text.length() == 0 ? "" : ", ").append(one.getSimpleName());
        }
        return text.toString();
    }

    private static void theClassesInside() {
        Class<?>[] inside = StairLight.class.getDeclaredClasses();
        check.isTrue("at most twelve classes", inside.length < 12);
        for (Class<?> one : inside) {
            int modifiers = one.getModifiers();
            check.isTrue("static and not public: " + one, Modifier.isStatic(modifiers) && !Modifier.isPublic(modifiers));
            check.isTrue("at most twenty fields: " + one, one.getDeclaredFields().length <= 20);
        }
    }

    private static void theWords(String file) throws IOException {
        String text = Files.readString(Path.of(file), StandardCharsets.UTF_8);
        check.isTrue("ASCII alone", text.chars().allMatch(c -> c < 127));
        String code = text.replaceAll("(?s)/\\*.*?\\*/", "").replaceAll("//[^\n]*", "");
        for (String word : FORBIDDEN) {
            check.isTrue("the program has no \"" + word + "\"", !code.contains(word));
        }
    }
}
