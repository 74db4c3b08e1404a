import java.io.IOException;
import java.lang.reflect.Method;
import java.lang.reflect.Modifier;
import java.nio.file.DirectoryStream;
import java.nio.file.Files;
import java.nio.file.Path;
import java.util.List;
import java.util.regex.Matcher;
import java.util.regex.Pattern;

/** README.md holds: its example answers what it says, and its tables leave out nothing. */
public final class ReadmeTest {
    private static final Check CHECK = new Check();
    private static final Path README = Path.of("README.md");
    private static final Path TESTS = Path.of("src", "test", "java");
    private static final Pattern CALL =
        Pattern.compile("bench\\.(\\w+)\\(([-0-9, ]*)\\);\\s*// (-?\\w+)(:.*)?");

    public static void main(String[] args) throws IOException, ReflectiveOperationException {
        List<String> lines = Files.readAllLines(README);
        example(lines);
        allCalls(lines);
        allTests(lines);
        CHECK.end();
    }

    private static void example(List<String> lines) throws ReflectiveOperationException {
        int first = lines.indexOf("```java");
        CHECK.due("there is an example", first >= 0, true);
        ProofBench bench = new ProofBench();
        int calls = 0;
        for (int i = first + 1; !lines.get(i).equals("```"); i++) {
            Matcher call = CALL.matcher(lines.get(i));
            if (call.matches()) {
                calls++;
                CHECK.same("README.md line " + (i + 1) + ", " + call.group(1), answer(bench, call), call.group(3));
            } else {
                CHECK.due("README.md line " + (i + 1) + " is a call with its answer, or needs none",
                    lines.get(i).isEmpty() || lines.get(i).equals("ProofBench bench = new ProofBench();"), true);
            }
        }
        CHECK.due("the example makes calls", calls > 0, true);
    }

    private static String answer(ProofBench bench, Matcher call) throws ReflectiveOperationException {
        String[] words = call.group(2).isEmpty() ? new String[0] : call.group(2).split(", ");
        Class<?>[] types = new Class<?>[words.length];
        Object[] numbers = new Object[words.length];
        for (int i = 0; i < words.length; i++) {
            types[i] = int.class;
            numbers[i] = Integer.valueOf(words[i]);
        }
        return String.valueOf(ProofBench.class.getMethod(call.group(1), types).invoke(bench, numbers));
    }

    private static void allCalls(List<String> lines) {
        for (Method method : ProofBench.class.getDeclaredMethods()) {
            if (Modifier.isPublic(method.getModifiers())) {
                dueRow(lines, "| `" + method.getName() + "(");
            }
        }
    }

    private static void allTests(List<String> lines) throws IOException {
        try (DirectoryStream<Path> files = Files.newDirectoryStream(TESTS, "*Test.java")) {
            for (Path file : files) {
                dueRow(lines, "| `" + file.getFileName().toString().replace(".java", "`"));
            }
        }
    }

    private static void dueRow(List<String> lines, String beginning) {
        long rows = lines.stream().filter(line -> line.startsWith(beginning)).count();
        CHECK.due("rows that begin with " + beginning, rows, 1);
    }
}
