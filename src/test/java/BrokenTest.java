import java.io.IOException;
import java.lang.reflect.Method;
import java.net.URI;
import java.net.URL;
import java.net.URLClassLoader;
import java.nio.file.Files;
import java.nio.file.Path;
import java.util.ArrayList;
import java.util.Comparator;
import java.util.HashSet;
import java.util.LinkedHashMap;
import java.util.List;
import java.util.Map;
import java.util.Set;
import java.util.regex.Matcher;
import java.util.regex.Pattern;
import java.util.stream.Stream;
import javax.tools.JavaCompiler;
import javax.tools.JavaFileObject;
import javax.tools.SimpleJavaFileObject;
import javax.tools.ToolProvider;

/**
 * Breaks the program in the ways that Breakages lists, one at a time, and looks whether the test of the sentence that is
 * broken by that fails. Each test of a sentence has to fail at least once. Run from the project's directory.
 */
public final class BrokenTest {
    private static final Check CHECK = new Check();
    private static final JavaCompiler COMPILER = ToolProvider.getSystemJavaCompiler();

    private static final class Source extends SimpleJavaFileObject {
        private final String text;

        Source(String text) {
            super(URI.create("string:///CaptureSegments.java"), JavaFileObject.Kind.SOURCE);
            this.text = text;
        }

        @Override
        public CharSequence getCharContent(boolean ignoreEncodingErrors) {
            return text;
        }
    }

    public static void main(String[] args) throws Exception {
        String program = Files.readString(Path.of("src/main/java/CaptureSegments.java"));
        Set<String> untried = new HashSet<>();
        for (Method test : Boundaries.all()) {
            CHECK.due("one test alone is named " + test.getName(), untried.add(test.getName()));
        }
        Map<String, List<String>> testsByProgram = new LinkedHashMap<>();
        testsByProgram.put(program, new ArrayList<>(untried));
        for (String[] row : Breakages.ROWS) {
            CHECK.due("there is a test " + row[0], untried.contains(row[0]));
            String broken = broken(program, row[1], row[2]);
            CHECK.due(row[0] + " is broken by " + row[2] + " for " + row[1], !broken.equals(program));
            testsByProgram.computeIfAbsent(broken, key -> new ArrayList<>()).add(row[0]);
        }
        for (String[] row : Breakages.ROWS) {
            untried.remove(row[0]);
        }
        CHECK.due("tests that nothing breaks: " + untried, untried.isEmpty());
        Path folder = Files.createTempDirectory("broken");
        for (Map.Entry<String, List<String>> each : testsByProgram.entrySet()) {
            tryTests(program, each.getKey(), each.getValue(), folder);
        }
        delete(folder);
        CHECK.end("BrokenTest");
    }

    /** The program with the place changed, wherever its lines are broken; the program itself if it has not one such place. */
    private static String broken(String program, String from, String into) {
        StringBuilder pattern = new StringBuilder();
        for (String word : from.trim().split("\\s+")) {
            pattern.append(pattern.length() == 0 ? "" : "\\s+").append(Pattern.quote(word));
        }
        Matcher place = Pattern.compile(pattern.toString()).matcher(program);
        if (!place.find()) {
            return program;
        }
        String broken = program.substring(0, place.start()) + into + program.substring(place.end());
        return place.find() ? program : broken;
    }

    private static void tryTests(String program, String broken, List<String> tests, Path folder) throws Exception {
        boolean passes = broken.equals(program);
        String what = passes ? "the program as it is" : "the program with " + difference(program, broken);
        if (!compiled(broken, folder)) {
            CHECK.due(what + " compiles", false);
            return;
        }
        URL tested = BrokenTest.class.getProtectionDomain().getCodeSource().getLocation();
        URL[] places = {folder.toUri().toURL(), tested};
        try (URLClassLoader loader = new URLClassLoader(places, ClassLoader.getPlatformClassLoader())) {
            Method runs = loader.loadClass("Boundaries").getDeclaredMethod("passes", String.class);
            runs.setAccessible(true);
            for (String test : tests) {
                CHECK.due(test + " passes, " + what, (Boolean) runs.invoke(null, test) ? 1 : 0, passes ? 1 : 0);
            }
        }
    }

    private static String difference(String program, String broken) {
        int same = 0;
        while (same < Math.min(program.length(), broken.length()) && program.charAt(same) == broken.charAt(same)) {
            same++;
        }
        int from = Math.max(0, same - 40);
        return "[.." + broken.substring(from, Math.min(broken.length(), same + 60)).replaceAll("\\s+", " ") + "..]";
    }

    private static boolean compiled(String program, Path folder) {
        List<String> options = List.of("-d", folder.toString(), "-Xlint:none", "-proc:none");
        return COMPILER.getTask(null, null, null, options, null, List.of(new Source(program))).call();
    }

    private static void delete(Path folder) throws IOException {
        try (Stream<Path> found = Files.walk(folder)) {
            for (Path path : found.sorted(Comparator.reverseOrder()).toList()) {
                Files.delete(path);
            }
        }
    }
}
