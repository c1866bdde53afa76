import java.io.IOException;
import java.lang.reflect.Method;
import java.lang.reflect.Modifier;
import java.nio.file.Files;
import java.nio.file.Path;
import java.util.List;
import java.util.regex.Matcher;
import java.util.regex.Pattern;
import java.util.stream.Stream;

/** README.md says how to use the class: every call in it answers what it says, and it names every call and every test. */
public final class ReadmeTest {
    private static final Path README = Path.of("README.md");
    private static final Path TESTS = Path.of("src/test/java");
    private static final Pattern MADE = Pattern.compile("ShardLedger ledger = new ShardLedger\\((\\d+)\\);.*");
    private static final Pattern CALLED = Pattern.compile("ledger\\.(\\w+\\([^)]*\\));\\s+// (-?\\d+|true|false)\\b.*");
    private static final Due DUE = new Due("ReadmeTest");

    public static void main(String[] args) throws IOException {
        examples(Files.readAllLines(README));
        names(Files.readString(README));
        DUE.end();
    }

    private static void examples(List<String> lines) {
        ShardLedger ledger = null;
        boolean inside = false;
        for (String line : lines) {
            Matcher made = MADE.matcher(line);
            if (line.startsWith("```")) {
                inside = line.equals("```java");
            } else if (inside && made.matches()) {
                ledger = new ShardLedger(Integer.parseInt(made.group(1)));
            } else if (inside) {
                example(ledger, line);
            }
        }
        DUE.yes("there is an example", ledger != null);
    }

    private static void example(ShardLedger ledger, String line) {
        Matcher called = CALLED.matcher(line);
        boolean told = called.matches();
        DUE.yes("an answer is told in: " + line, told);
        if (told) {
            DUE.is(called.group(1), Call.parse(called.group(1)).on(ledger), number(called.group(2)));
        }
    }

    private static int number(String word) {
        return switch (word) {
            case "true" -> 1;
            case "false" -> 0;
            default -> Integer.parseInt(word);
        };
    }

    private static void names(String text) throws IOException {
        for (Method method : ShardLedger.class.getDeclaredMethods()) {
            if (Modifier.isPublic(method.getModifiers())) {
                DUE.yes("the call " + method.getName() + " is told", text.contains("| `" + method.getName() + "("));
            }
        }
        for (Class<?> inside : ShardLedger.class.getDeclaredClasses()) {
            DUE.yes("the class " + inside.getSimpleName() + " is told", text.contains("`" + inside.getSimpleName() + "`"));
        }
        try (Stream<Path> files = Files.list(TESTS)) {
            files.forEach(file -> {
                String name = file.getFileName().toString().replace(".java", "");
                DUE.yes(name + " is told", text.contains("`" + name + "`") || text.contains("`" + name + "."));
            });
        }
        DUE.yes("how to run the tests is told", text.contains(".ci/run"));
    }
}
