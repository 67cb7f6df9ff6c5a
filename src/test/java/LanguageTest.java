import java.io.IOException;
import java.nio.file.Files;
import java.nio.file.Path;
import java.util.Set;
import java.util.regex.Matcher;
import java.util.regex.Pattern;

/** The rules of LANGUAGE.md that can be seen in the source's words. It is run from the project's directory. */
public final class LanguageTest {
    private static final Check CHECK = new Check();
    private static final Set<String> FORBIDDEN = Set.of("throw", "throws", "try", "catch", "finally", "synchronized",
        "assert", "import", "package", "protected", "volatile", "transient", "native", "strictfp", "var", "yield",
        "equals", "hashCode", "toString", "Object", "String", "double", "float");
    private static final Set<String> LIBRARY = Set.of("Math", "Math.min", "Math.max", "Math.abs", "System",
        "System.arraycopy");
    private static final int LONGEST_METHOD = 60, MOST_PARAMETERS = 7, MOST_CLASSES = 12;

    public static void main(String[] args) throws IOException {
        String source = Files.readString(Path.of("src/main/java/CaptureSegments.java"));
        CHECK.due("signs are 1 to 127", source.chars().allMatch(c -> c > 0 && c < 128));
        String code = source.replaceAll("(?s)/\\*.*?\\*/", " ").replaceAll("//[^\n]*", " ").replaceAll("'.'", "'c'");
        words(code);
        methods(source);
        CHECK.end("LanguageTest");
    }

    private static void words(String code) {
        CHECK.due("no lambda", !code.contains("->"));
        CHECK.due("no method reference", !code.contains("::"));
        CHECK.due("no text", !code.contains("\""));
        CHECK.due("no annotation", !code.contains("@"));
        Set<String> own = Set.of("CaptureSegments", "Segments", "Memory", "History", "Slots", "Pad");
        Matcher word = Pattern.compile("[A-Za-z_][A-Za-z_0-9]*").matcher(code);
        while (word.find()) {
            CHECK.due("the word " + word.group(), !FORBIDDEN.contains(word.group()));
        }
        Matcher name = Pattern.compile("\\b[A-Z][a-z][A-Za-z]*(?:\\.[a-z][A-Za-z]*)?").matcher(code);
        while (name.find()) {
            String found = name.group();
            String ahead = found.replaceAll("\\..*", "");
            CHECK.due("the name " + found, own.contains(ahead) || LIBRARY.contains(found));
        }
        int classes = 0;
        Matcher made = Pattern.compile("\\bclass\\s+(\\w+)").matcher(code);
        while (made.find()) {
            classes++;
            CHECK.due("class " + made.group(1), own.contains(made.group(1)));
        }
        CHECK.due(classes + " classes", classes <= MOST_CLASSES);
        Matcher statics = Pattern.compile("\\bstatic\\s+(?!final\\b)([^;{=(]*)([;=])").matcher(code);
        CHECK.due("a static field that is not final", !statics.find());
    }

    /** A method begins with a line that ends with "{" and holds "(", four or eight signs in, and ends as far in. */
    private static void methods(String source) {
        String[] lines = source.split("\n");
        Pattern head = Pattern.compile("(    |        )\\w[\\w\\[\\] ]*\\(([^()]*)\\) \\{");
        int methods = 0;
        for (int i = 0; i < lines.length; i++) {
            Matcher matcher = head.matcher(lines[i]);
            if (matcher.matches() && !lines[i].trim().matches("(for|if|while|switch)\\b.*")) {
                int end = i;
                while (!lines[end].equals(matcher.group(1) + "}")) {
                    end++;
                }
                methods++;
                CHECK.due("a short method: " + lines[i].trim(), end - i < LONGEST_METHOD);
                CHECK.due("parameters of " + lines[i].trim(), matcher.group(2).split(",").length <= MOST_PARAMETERS);
            }
        }
        CHECK.due("methods were found", methods > 60);
    }
}
