import java.io.IOException;
import java.lang.reflect.Field;
import java.lang.reflect.Modifier;
import java.nio.file.Files;
import java.nio.file.Path;
import java.util.ArrayList;
import java.util.List;
import java.util.regex.Pattern;

/** What can be seen of LANGUAGE.md's rules in the text of ShardLedger.java; FaceTest looks at rules 1, 5 and 11, too. */
public final class LanguageTest {
    private static final Path MAIN = Path.of("src/main/java/ShardLedger.java");
    private static final String METHOD_INDENT = "(?:    |        )";
    private static final Due DUE = new Due("LanguageTest");

    public static void main(String[] args) throws IOException {
        String code = withoutComments(Files.readString(MAIN));
        words(code);
        loops(code);
        sizes(code);
        DUE.end();
    }

    private static String withoutComments(String text) {
        return text.replaceAll("(?s)/\\*.*?\\*/", "").replaceAll("//[^\\n]*", "");
    }

    /** The program needs none of these; most of them are ruled out, and the others bring what has to be counted. */
    private static void words(String code) {
        String[] words = {"package", "import", "java", "throws?", "try", "catch", "finally", "synchronized", "assert", "native",
            "volatile", "transient", "double", "float", "String", "System", "Thread", "Object", "hashCode", "equals",
            "toString", "while", "do", "var", "abstract", "extends", "implements"};
        for (String word : words) {
            DUE.no("rules 1 to 13: the word " + word, Pattern.compile("\\b" + word + "\\b").matcher(code).find());
        }
        for (String sign : new String[] {"->", "::", "\"", "static {", "[][]", "@"}) {
            DUE.no("rules 2 to 5: the sign " + sign, code.contains(sign));
        }
        DUE.yes("rule 4: of the library Math.max alone", !code.replace("Math.max(", "").contains("Math"));
    }

    private static void loops(String code) {
        for (String line : code.split("\n")) {
            if (line.strip().startsWith("for ")) {
                DUE.yes("rule 9: a counter against a bound in: " + line.strip(), line.matches(".*for \\(int (\\w+) = .*\\b\\1 < .*"));
            }
        }
    }

    private static void sizes(String code) {
        classSizes();
        methodLengths(code.split("\n"));
    }

    private static void classSizes() {
        List<Class<?>> all = new ArrayList<>(List.of(ShardLedger.class.getDeclaredClasses()));
        all.add(ShardLedger.class);
        DUE.yes("rule 11: " + all.size() + " classes", all.size() <= 12);
        for (Class<?> each : all) {
            int fields = 0;
            for (Field field : each.getDeclaredFields()) {
                fields += Modifier.isStatic(field.getModifiers()) ? 0 : 1;
            }
            DUE.yes("rule 11: " + fields + " fields in " + each.getName(), fields <= 20);
        }
    }

    private static void methodLengths(String[] lines) {
        int begin = 0;
        for (int n = 0; n < lines.length; n++) {
            if (lines[n].matches(METHOD_INDENT + "\\S.*\\) \\{")) {
                begin = n;
            } else if (lines[n].matches(METHOD_INDENT + "\\}")) {
                DUE.yes("rule 11: the length of" + lines[begin], n - begin < 60);
                begin = n;
            }
        }
    }
}
