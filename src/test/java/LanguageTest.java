import java.nio.file.Files;
import java.nio.file.Path;
import java.util.Set;
import java.util.TreeSet;
import java.util.regex.Matcher;
import java.util.regex.Pattern;

/** The rules of LANGUAGE.md that can be seen in the text of the program. */
public final class LanguageTest {
    private static final int LONGEST_METHOD = 65;
    private static final int MOST_PARAMETERS = 7;
    private static final int MOST_CLASSES = 12;
    private static final String EXCEPTIONS = "IllegalStateException|IllegalArgumentException|IndexOutOfBoundsException"
        + "|ArithmeticException|UnsupportedOperationException|NoSuchElementException|RuntimeException";
    private static final Check CHECK = new Check("LanguageTest");

    public static void main(String[] args) throws Exception {
        String source = Files.readString(Path.of("src/main/java/Exactdoubles.java"));
        String code = source.replaceAll("(?s)/\\*.*?\\*/", "").replaceAll("//.*", "");
        CHECK.isTrue("only signs of 1 to 127", code.chars().allMatch(sign -> sign < 128));
        String[] forbidden = {
            "\\bpackage\\b", "(?m)^(?!\\s*(case|default)\\b).*->", "::", "\\bsynchronized\\b", "\\bassert\\b", "\\bfinally\\b",
            "\\btry *\\(", "Exact\\(", "\\bSystem\\b(?!\\.arraycopy)", "\\bThread\\b", "\\bRandom\\b", "\" *\\+", "\\+ *\"",
            "\\bObject\\b", "MAX_VALUE", "MIN_VALUE", "while *\\(true", "for *\\( *; *;", "static *\\{", "getMessage",
            "\\bimport (?!java\\.util\\.(ArrayList|List|Arrays|Iterator|NoSuchElementException);)"
        };
        for (String pattern : forbidden) {
            CHECK.same("no " + pattern, Pattern.compile(pattern).matcher(code).find(), false);
        }
        library(code);
        throwing(code);
        statics(code);
        lengths(source);
        CHECK.finish();
    }

    /** No call of the library that rule 4 leaves out, as far as a name shows it. */
    private static void library(String code) {
        Set<String> used = new TreeSet<>();
        Matcher matcher = Pattern.compile("\\bMath\\.(\\w+)").matcher(code);
        while (matcher.find()) {
            used.add(matcher.group(1));
        }
        used.removeAll(Set.of("abs", "max", "min", "floorDiv", "floorMod", "multiplyHigh"));
        CHECK.same("functions of Math beside those over int and long", used, Set.of());
    }

    private static void throwing(String code) {
        Matcher matcher = Pattern.compile("throw ([^;]*;)").matcher(code);
        Pattern written = Pattern.compile("new (" + EXCEPTIONS + ")\\((\"[^\"]*\")?\\);");
        while (matcher.find()) {
            CHECK.isTrue(matcher.group(), written.matcher(matcher.group(1)).matches());
        }
        Matcher catching = Pattern.compile("\\bcatch *\\(([^)]*)\\)").matcher(code);
        Pattern caught = Pattern.compile("(final )?(" + EXCEPTIONS + ")( *\\| *(" + EXCEPTIONS + "))* \\w+");
        while (catching.find()) {
            CHECK.isTrue(catching.group(), caught.matcher(catching.group(1)).matches());
        }
    }

    private static void statics(String code) {
        Matcher matcher = Pattern.compile("(?m)^ *(?:private )?static (?!final)[^(]*[;=].*$").matcher(code);
        CHECK.same("static fields are final", matcher.find(), false);
        Matcher classes = Pattern.compile("\\bclass \\w+").matcher(code);
        CHECK.isTrue("classes", classes.results().count() <= MOST_CLASSES);
    }

    private static void lengths(String source) {
        String indent = null;
        int length = 0;
        for (String line : source.split("\n")) {
            Matcher head = Pattern.compile("^( {4}| {8})(?=\\S)(?:\\w|\\[|\\]| )*\\(([^)]*)\\).*\\{$").matcher(line);
            if (indent == null && head.matches()) {
                indent = head.group(1);
                length = 0;
                CHECK.isTrue("parameters of " + line.trim(), head.group(2).split(",").length <= MOST_PARAMETERS);
            }
            length++;
            if (indent != null && line.equals(indent + "}")) {
                CHECK.isTrue("a method's length, up to its end " + length, length <= LONGEST_METHOD);
                indent = null;
            }
        }
    }
}
