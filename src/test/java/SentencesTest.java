import java.lang.reflect.Method;
import java.nio.file.Files;
import java.nio.file.Path;
import java.util.ArrayList;
import java.util.Arrays;
import java.util.List;

/** SENTENCES.md names each sentence of the document, in its order, and tests that there are. */
public final class SentencesTest {
    private static final Path TABLE = Path.of("src/test/SENTENCES.md");
    private static final Path DOCUMENT = Path.of("../shared/DOC.md");
    /** What the document leaves open, under its last heading, can have no test. */
    private static final String FREE = "free";
    private static final String LEFT_OPEN = "## Not promised";
    private static final Check CHECK = new Check("SentencesTest");

    public static void main(String[] args) throws Exception {
        List<String> due = sentences(Files.readString(DOCUMENT));
        CHECK.isTrue("sentences", due.size() > 54);
        List<String> table = new ArrayList<>();
        String heading = "";
        String sentence = "";
        boolean isTested = true;
        for (String line : Files.readAllLines(TABLE)) {
            if (line.startsWith("## ")) {
                heading = line;
            } else if (line.startsWith("> ")) {
                CHECK.isTrue("a test of: " + sentence, isTested);
                sentence = line.substring(2);
                table.add(sentence);
                isTested = false;
            } else if (line.startsWith("- ")) {
                isTested = true;
                tests(heading, sentence, line.substring(2));
            }
        }
        CHECK.isTrue("a test of: " + sentence, isTested);
        for (int at = 0; at < Math.max(due.size(), table.size()); at++) {
            CHECK.same("sentence " + at, at < table.size() ? table.get(at) : null, at < due.size() ? due.get(at) : null);
        }
        CHECK.finish();
    }

    /** Without the face, signatures, parameters and what is thrown: FaceTest and ThrowsTest read these. */
    private static List<String> sentences(String text) {
        List<String> sentences = new ArrayList<>();
        for (String line : text.replaceAll("(?s)```java.*?```", "").split("\n")) {
            String part = line.trim();
            boolean isElsewhere = part.startsWith("#") || part.startsWith("==") || part.startsWith("----") || part.startsWith("`")
                || part.startsWith("- `") || part.startsWith("Throws `");
            if (!part.isEmpty() && !isElsewhere) {
                sentences.addAll(Arrays.asList(part.split("(?<=\\.) (?=[A-Z0-9])")));
            }
        }
        return sentences;
    }

    private static void tests(String heading, String sentence, String names) throws Exception {
        if (heading.equals(LEFT_OPEN)) {
            CHECK.same("a test of: " + sentence, names, FREE);
            return;
        }
        for (String name : names.split(", ")) {
            CHECK.isTrue("there is " + name + " for: " + sentence, isThere(name));
        }
    }

    private static boolean isThere(String name) throws Exception {
        String[] parts = name.split("\\.");
        if (parts.length != 2 || !parts[0].endsWith("Test")
            || !Files.exists(Path.of("src/test/java", parts[0] + ".java"))) {
            return false;
        }
        // Not begun by this: a test's fields may already make boards.
        Class<?> type = Class.forName(parts[0], false, SentencesTest.class.getClassLoader());
        for (Method method : type.getDeclaredMethods()) {
            if (method.getName().equals(parts[1])) {
                return true;
            }
        }
        return false;
    }
}
