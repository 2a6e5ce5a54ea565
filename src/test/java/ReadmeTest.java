import java.io.IOException;
import java.lang.reflect.Method;
import java.lang.reflect.Modifier;
import java.nio.file.Files;
import java.nio.file.Path;
import java.util.Set;
import java.util.TreeSet;
import java.util.regex.Matcher;
import java.util.regex.Pattern;

/** README.md's examples are calls that answer as they say, and its tables name what is there. */
public final class ReadmeTest {
    private static final Pattern EXAMPLE = Pattern.compile("x\\.(\\w+)\\(([^)]*)\\);\\s*// (-?\\d+): .+");
    private static final Pattern CALLS = Pattern.compile("\\| ([a-z][A-Za-z]*(?:, [a-z][A-Za-z]*)*) \\|.*\\| [\\d a-z]+ \\|");
    private static final Pattern TESTS = Pattern.compile("\\| (\\w+Test) \\|.*");

    public static void main(String[] args) throws IOException {
        String[] lines = Files.readString(Path.of("README.md")).split("\n");
        examplesAnswerAsTheySay(lines);
        tableHasEveryCall(lines);
        tableHasEveryTest(lines);
        Due.end();
    }

    private static void examplesAnswerAsTheySay(String[] lines) {
        boolean code = false;
        int examples = 0;
        ScrewLeft x = null;
        for (String line : lines) {
            if (line.startsWith("```")) {
                code = line.equals("```java");
            } else if (code && line.equals("ScrewLeft x = new ScrewLeft();")) {
                x = new ScrewLeft();
            } else if (code) {
                Matcher example = EXAMPLE.matcher(line);
                boolean good = example.matches() && x != null;
                Due.holds("README.md: \"" + line + "\" is an example", good);
                if (good) {
                    int answer = Edge.call(x, example.group(1), numbers(example.group(2)));
                    Due.is("README.md: " + line, answer, Integer.parseInt(example.group(3)));
                    examples++;
                }
            }
        }
        Due.holds("README.md has examples", examples > 30);
    }

    private static Object[] numbers(String list) {
        if (list.isEmpty()) {
            return new Object[0];
        }
        String[] parts = list.split(", ");
        Object[] numbers = new Object[parts.length];
        for (int i = 0; i < parts.length; i++) {
            boolean isLong = parts[i].endsWith("L");
            numbers[i] = isLong ? (Object) Long.decode(parts[i].replace("L", "")) : (Object) Integer.decode(parts[i]);
        }
        return numbers;
    }

    private static void tableHasEveryCall(String[] lines) {
        Set<String> calls = new TreeSet<>();
        for (Method method : ScrewLeft.class.getDeclaredMethods()) {
            if (Modifier.isPublic(method.getModifiers())) {
                calls.add(method.getName());
            }
        }
        Set<String> told = new TreeSet<>();
        for (String line : lines) {
            Matcher row = CALLS.matcher(line);
            if (row.matches()) {
                for (String call : row.group(1).split(", ")) {
                    Due.holds("README.md tells " + call + " once", told.add(call));
                }
            }
        }
        told.remove("calls");
        Due.holds("README.md tells all calls: " + told, told.equals(calls));
    }

    private static void tableHasEveryTest(String[] lines) throws IOException {
        Set<String> tests = new TreeSet<>();
        try (var files = Files.newDirectoryStream(Path.of("src/test/java"), "*Test.java")) {
            for (Path file : files) {
                tests.add(file.getFileName().toString().replace(".java", ""));
            }
        }
        Set<String> told = new TreeSet<>();
        for (String line : lines) {
            Matcher row = TESTS.matcher(line);
            if (row.matches()) {
                told.add(row.group(1));
            }
        }
        Due.holds("README.md tells all tests: " + told, told.equals(tests));
    }
}
