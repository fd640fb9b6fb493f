import java.io.IOException;
import java.lang.reflect.Method;
import java.nio.file.Files;
import java.nio.file.Path;
import java.util.ArrayList;
import java.util.List;
import java.util.regex.Matcher;
import java.util.regex.Pattern;

/** What README.md says: the answers behind its calls, the calls in its table, the tests that it tells of. */
public final class ReadmeTest {
    private static final Pattern MADE = Pattern.compile("OneBreath x = new OneBreath\\(\\);");
    private static final Pattern CALL = Pattern.compile("x\\.(\\w+)\\(([^)]*)\\); +// (-?\\d+)(: .*)?");
    private static final Pattern BLOCK = Pattern.compile("(?s)```java\n(.*?)```");
    private static final Pattern ROW = Pattern.compile("(?m)^\\| `(\\w+\\([^)]*\\))` \\| (\\d+) \\|");
    private static final Pattern PROMISE = Pattern.compile("(?m)^## Promise (\\d+):.*\n\n`([^`]*)`:");

    private ReadmeTest() {
    }

    public static void main(String[] args) throws Exception {
        String readme = Files.readString(Path.of("README.md"));
        Matcher block = BLOCK.matcher(readme);
        int blocks = 0;
        while (block.find()) {
            runBlock(block.group(1));
            blocks++;
        }
        Due.is("README.md has blocks of calls", blocks > 0 ? 1 : 0, 1);
        table(readme, Files.readString(Path.of("../shared/DOC.md")));
        errors(readme);
        tests(readme);
        Due.end("ReadmeTest");
    }

    private static void runBlock(String block) throws ReflectiveOperationException {
        OneBreath x = null;
        for (String line : block.split("\n")) {
            Matcher call = CALL.matcher(line);
            if (MADE.matcher(line).matches()) {
                x = new OneBreath();
            } else if (call.matches() && x != null) {
                Due.is("README.md: " + line, answer(x, call.group(1), call.group(2)), Long.parseLong(call.group(3)));
            } else {
                Due.is("README.md has a line without an answer", line, "");
            }
        }
    }

    private static int answer(OneBreath x, String name, String words) throws ReflectiveOperationException {
        String[] parts = words.isEmpty() ? new String[0] : words.split(", ");
        for (Method method : OneBreath.class.getDeclaredMethods()) {
            if (method.getName().equals(name) && method.getParameterCount() == parts.length) {
                Object[] numbers = new Object[parts.length];
                for (int i = 0; i < parts.length; i++) {
                    long number = Long.decode(parts[i].replace("L", ""));
                    numbers[i] = method.getParameterTypes()[i] == long.class ? (Object) number : (Object) (int) number;
                }
                return (Integer) method.invoke(x, numbers);
            }
        }
        throw new NoSuchMethodException(name + "(" + words + ")");
    }

    /** The table has each call of the document, with its promise, in the document's order. */
    private static void table(String readme, String document) {
        List<String> due = new ArrayList<>();
        Matcher promise = PROMISE.matcher(document);
        while (promise.find()) {
            due.add(promise.group(1) + " " + promise.group(2).replaceAll("\\b(int|long) ", ""));
        }
        List<String> got = new ArrayList<>();
        Matcher row = ROW.matcher(readme);
        while (row.find()) {
            got.add(row.group(2) + " " + row.group(1));
        }
        Due.is("how many promises the document has", due.size(), 42);
        Due.is("the table of calls", got.toString(), due.toString());
    }

    private static void errors(String readme) {
        String[] names = {"BEYOND", "NONE", "STATE", "FULL", "KIND"};
        for (int k = 1; k <= names.length; k++) {
            String row = "| " + (Due.LOW - k) + " | " + names[k - 1] + " | " + k + " |";
            Due.is("README.md has the row " + row, readme.contains(row) ? 1 : 0, 1);
        }
    }

    /** Each class under src/test/java is told of. */
    private static void tests(String readme) throws IOException {
        try (var files = Files.list(Path.of("src/test/java"))) {
            for (Path file : (Iterable<Path>) files.sorted()::iterator) {
                String name = file.getFileName().toString().replace(".java", "");
                Due.is("README.md tells of " + name, readme.contains("`" + name + "`") ? 1 : 0, 1);
            }
        }
    }
}
