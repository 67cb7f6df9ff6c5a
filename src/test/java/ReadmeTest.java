import java.io.IOException;
import java.lang.reflect.Method;
import java.nio.file.Files;
import java.nio.file.Path;
import java.util.regex.Matcher;
import java.util.regex.Pattern;

/**
 * The examples of README.md: each line that makes an object or a call is read, and the call is made; the number behind
 * "//" is the answer that is due. Run from the project's directory.
 */
public final class ReadmeTest {
    private static final Check CHECK = new Check();
    private static final Pattern BLOCK = Pattern.compile("(?s)```java\n(.*?)```");
    private static final String NEW = "CaptureSegments scope = new CaptureSegments();";
    private static final Pattern CALL = Pattern.compile("scope\\.(\\w+)\\((.*)\\); +// (-?\\d+): .+");

    private ReadmeTest() {
    }

    public static void main(String[] args) throws Exception {
        String page = Files.readString(Path.of("README.md"));
        Matcher block = BLOCK.matcher(page);
        int blocks = 0;
        while (block.find()) {
            blocks++;
            runExample(block.group(1));
        }
        CHECK.due("examples were found", blocks >= 3);
        tellsWhatIsThere(page);
        CHECK.end("ReadmeTest");
    }

    private static void runExample(String example) throws Exception {
        CaptureSegments scope = null;
        for (String line : example.split("\n")) {
            Matcher call = CALL.matcher(line);
            if (line.startsWith(NEW)) {
                scope = new CaptureSegments();
            } else if (scope != null && call.matches()) {
                int got = answer(scope, call.group(1), call.group(2));
                CHECK.due("README.md: " + line.trim(), got, Integer.parseInt(call.group(3)));
            } else {
                CHECK.due("README.md, a line that is no call of an object: " + line, false);
            }
        }
    }

    private static int answer(CaptureSegments scope, String name, String told) throws Exception {
        String[] texts = told.isEmpty() ? new String[0] : told.split(", ");
        for (Method method : CaptureSegments.class.getMethods()) {
            if (method.getName().equals(name) && method.getParameterCount() == texts.length) {
                Object[] values = new Object[texts.length];
                for (int i = 0; i < texts.length; i++) {
                    long value = valueOf(texts[i]);
                    if (method.getParameterTypes()[i] == long.class) {
                        values[i] = value;
                    } else {
                        values[i] = Math.toIntExact(value);
                    }
                }
                return (Integer) method.invoke(scope, values);
            }
        }
        throw new IllegalArgumentException("no method " + name + "(" + told + ")");
    }

    private static long valueOf(String text) throws Exception {
        if (text.startsWith("CaptureSegments.")) {
            return CaptureSegments.class.getField(text.substring("CaptureSegments.".length())).getInt(null);
        }
        return Long.decode(text.replaceAll("L$", ""));
    }

    /** The list of tests names each test, and no other. */
    private static void tellsWhatIsThere(String page) throws IOException {
        try (var files = Files.list(Path.of("src/test/java"))) {
            for (Path file : files.sorted().toList()) {
                String name = file.getFileName().toString().replace(".java", "");
                if (name.endsWith("Test")) {
                    boolean boundary = name.matches("Boundary(Terms|Segments|Changes|Answers|Texts|States)Test");
                    CHECK.due("README.md names " + name, page.contains("- `" + (boundary ? "Boundary..Test" : name) + "`"));
                }
            }
        }
        Matcher listed = Pattern.compile("(?m)^- `(\\w+Test)`").matcher(page);
        while (listed.find()) {
            CHECK.due("there is " + listed.group(1), Files.exists(Path.of("src/test/java", listed.group(1) + ".java")));
        }
    }
}
