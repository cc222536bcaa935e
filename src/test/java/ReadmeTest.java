import java.io.IOException;
import java.lang.reflect.Method;
import java.lang.reflect.Modifier;
import java.nio.charset.StandardCharsets;
import java.nio.file.Files;
import java.nio.file.Path;
import java.util.List;
import java.util.stream.Stream;

/** README.md: it names each call and each test, and the answers of its example are those of the program. */
public final class ReadmeTest {
    private static final Check check = new Check();
    private static final String FIRST_LINE = "StairLight stairs = new StairLight();";

    private static StairLight stairs;
    private static List<String> lines;
    private static int line;

    public static void main(String[] args) throws IOException {
        lines = Files.readAllLines(Path.of("README.md"), StandardCharsets.UTF_8);
        eachCallIsNamed();
        eachTestIsNamed();
        theExample();
        check.end("ReadmeTest");
    }

    private static void eachCallIsNamed() {
        for (Method method : StairLight.class.getDeclaredMethods()) {
            if (Modifier.isPublic(method.getModifiers())) {
                isNamed(method.getName());
            }
        }
    }

    private static void eachTestIsNamed() throws IOException {
        try (Stream<Path> files = Files.list(Path.of("src/test/java"))) {
            files.map(file -> file.getFileName().toString()).filter(name -> name.endsWith("Test.java"))
                .forEach(name -> isNamed(name.replace(".java", "")));
        }
    }

    private static void isNamed(String name) {
        check.isTrue("README.md names " + name, String.join("\n", lines).contains("`" + name + "`"));
    }

    private static void theExample() {
        stairs = new StairLight();
        line = 0;
        while (line < lines.size() && !lines.get(line).startsWith(FIRST_LINE)) {
            line++;
        }
        told("set(0, 3)", stairs.set(0, 3));
        told("set(2, 1)", stairs.set(2, 1));
        told("sensor(1, false)", stairs.sensor(1, false));
        told("come(0, 2)", stairs.come(0, 2));
        told("dark(0, 2)", stairs.dark(0, 2));
        told("leastTime(0, 2)", stairs.leastTime(0, 2));
        told("pass(20)", stairs.pass(20));
        told("floor(1, 4)", stairs.floor(1, 4));
        told("worst()", stairs.worst());
        told("lightness()", stairs.lightness());
        told("undo()", stairs.undo());
        told("ifPassed(20, 1)", stairs.ifPassed(20, 1));
        line++;
        check.isTrue("the example ends there", line < lines.size() && lines.get(line).equals("```"));
    }

    /** The next line of the example must have this call, and this answer behind it. */
    private static void told(String call, Number answer) {
        line++;
        String text = line < lines.size() ? lines.get(line) : "";
        boolean isTold = text.startsWith("stairs." + call + ";") && text.contains("// " + answer + ": ");
        check.isTrue("README.md tells \"" + text + "\"; " + call + " answered " + answer, isTold);
    }
}
