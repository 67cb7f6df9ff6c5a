import java.io.IOException;
import java.lang.reflect.Method;
import java.nio.file.Files;
import java.nio.file.Path;
import java.util.LinkedHashMap;
import java.util.Map;

/**
 * Each test of a sentence stands for words of the document: they are found in the section that the test's name tells, and
 * together they leave nothing of "Terms" and of the promises out but what is listed here. Run from the project's directory.
 */
public final class SentencesTest {
    private static final Check CHECK = new Check();
    /** By section, what names no boundary: words between sentences, and what the document says twice. */
    private static final String[][] LEFT_OUT = {
        {"what", "The memory of a scope that captures segments: samples that come one by one, a detector of rises, falls and "
            + "runts with hysteresis, samples that are kept ahead of a trigger, segments of a fixed depth, a hold-off behind "
            + "each, segments that are kept or written over, firings that are ignored, what a segment shows, samples so far, "
            + "what another level would fire, the level that fires most, segments that are alike, samples that are read from "
            + "texts, undo, and saved states.", "what later calls answer is free."},
        {"terms", "CONVENTIONS."},
        {"settings", "Samples, detector", "When a sample v comes:"},
        {"texts", "```text", "```", "The constants: `NO_SUCH = -1, BAD_VALUE = -2, BAD_TEXT = -3, TOO_MANY = -4, "
            + "NOT_POSSIBLE = -5, NONE = -6`: Error codes, and NONE: there is none.",
            "`KIND = 0, LEVEL = 1, HYST = 2, LOW = 3, HIGH = 4, DEPTH = 5, PRE = 6, HOLD = 7, KEEP = 8, OVER = 9`: Settings.",
            "`RISES = 0, FALLS = 1, RUNTS = 2`: Kinds.",
            "Ahead of the calls `set`, `feed`, `clear`, `drop` the interface says: ---- changes.",
            "Ahead of the calls `segment`, `sampleOf`, `sample`, `count` the interface says: ---- what there is.",
            "Ahead of the calls `fires`, `bestLevel`, `unlike`, `nearest` the interface says: ---- questions; nothing changes.",
            "Ahead of the calls `put`, `wipe`, `fault`, `carryOut` the interface says: ---- texts.",
            "Ahead of the calls `undo`, `save`, `restore` the interface says: ---- undo, saving."},
        {"p06", "`what`:", "Returns the number;"},
        {"p07", "Returns the sample;"},
        {"p08", "Returns the sample;"},
        {"p09", "Returns a number.", "`what`:", "Returns the number;"},
        {"p11", "`what`:", "Returns the number;"},
        {"p12", "Returns the sum;"},
        {"p13", "Returns the segment;"},
        {"p14", "They are given as a number:"}};

    public static void main(String[] args) throws IOException {
        Map<String, String> sections = sectionsOf(Files.readString(Path.of("../shared/DOC.md")));
        CHECK.due("sections", sections.size(), 25);
        Map<String, StringBuilder> left = new LinkedHashMap<>();
        sections.forEach((name, text) -> left.put(name, new StringBuilder(text)));
        for (Method test : Boundaries.all()) {
            String place = test.getName().replaceAll("_.*", "");
            for (String said : test.getAnnotation(Sentence.class).value()) {
                CHECK.due(test.getName() + ": the document says there: " + said, takeOut(sections, left, place, said));
            }
        }
        for (String[] row : LEFT_OUT) {
            for (int i = 1; i < row.length; i++) {
                CHECK.due(row[0] + " has what is left out: " + row[i], takeOut(sections, left, row[0], row[i]));
            }
        }
        for (Map.Entry<String, StringBuilder> section : left.entrySet()) {
            for (String untold : section.getValue().toString().split("_+")) {
                CHECK.due(section.getKey() + ": no test for: " + untold, !untold.matches(".*[A-Za-z].*"));
            }
        }
        CHECK.end("SentencesTest");
    }

    /** Puts "_" where the words stand; returns whether the section has them. */
    private static boolean takeOut(Map<String, String> sections, Map<String, StringBuilder> left, String place, String words) {
        String text = sections.getOrDefault(place, "");
        int found = text.indexOf(words);
        if (found < 0) {
            return false;
        }
        left.get(place).replace(found, found + words.length(), "_".repeat(words.length()));
        return true;
    }

    /** The sections by the beginning of their tests' names; white space is folded, and the line of the call left out. */
    private static Map<String, String> sectionsOf(String document) {
        Map<String, String> sections = new LinkedHashMap<>();
        for (String part : document.split("(?m)^##+ ")) {
            String heading = part.split("\n")[0];
            String body = part.substring(heading.length()).replaceAll("(?m)^`int [^`]*`: |^`CaptureSegments\\(\\)`: ", "")
                .replaceAll("\\s+", " ");
            if (heading.startsWith("Promise ")) {
                String number = heading.replaceAll("Promise (\\d+):.*", "$1");
                sections.put(number.length() == 1 ? "p0" + number : "p" + number, body);
            } else if (heading.matches("What it is|Terms|Settings|Segments|Texts")) {
                sections.put(heading.toLowerCase().split(" ")[0], body);
            }
        }
        return sections;
    }
}
