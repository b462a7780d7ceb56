import java.nio.file.Files;
import java.nio.file.Path;
import java.util.Set;
import java.util.TreeSet;
import java.util.regex.Matcher;
import java.util.regex.Pattern;

/** The rules of LANGUAGE.md that can be seen in the text of the program. */
public final class LanguageTest {
    private static final int LONGEST_METHOD = 60;
    private static final int MOST_PARAMETERS = 7;
    private static final int MOST_CLASSES = 12;
    private static final Check CHECK = new Check("LanguageTest");

    public static void main(String[] args) throws Exception {
        String source = Files.readString(Path.of("src/main/java/Exactdoubles.java"));
        CHECK.isTrue("only ASCII", source.chars().allMatch(sign -> sign < 128));
        String code = source.replaceAll("(?s)/\\*.*?\\*/", "").replaceAll("//.*", "");
        String[] forbidden = {
            "\\bimport\\b", "\\bpackage\\b", "->", "::", "\\bsynchronized\\b", "\\bassert\\b", "\\bfinally\\b", "\\bcatch\\b",
            "\\btry\\b", "\\bdouble\\b", "\\bfloat\\b", "\\bnull\\b", "\\binstanceof\\b", "Exact\\(", "\\bSystem\\b", "\\bThread\\b",
            "\" *\\+", "\\+ *\"", "\\bObject\\b", "\\bprotected\\b", "MAX_VALUE", "MIN_VALUE", "while *\\(true"
        };
        for (String pattern : forbidden) {
            CHECK.same("no " + pattern, Pattern.compile(pattern).matcher(code).find(), false);
        }
        library(code);
        throwing(code);
        statics(code);
        lengths(source);
        CHECK.finish();
    }

    /** Only calls of the library that rule 4 lists by name. */
    private static void library(String code) {
        Set<String> used = new TreeSet<>();
        Matcher matcher = Pattern.compile("\\b(Math|Long|Integer|signs)\\.(\\w+)").matcher(code);
        while (matcher.find()) {
            used.add(matcher.group(1) + "." + matcher.group(2));
        }
        used.removeAll(Set.of("Math.abs", "Math.max", "Math.min", "Long.compare", "signs.append", "signs.length",
            "signs.setLength", "signs.toString"));
        CHECK.same("library calls beside the listed ones", used, Set.of());
    }

    private static void throwing(String code) {
        Matcher matcher = Pattern.compile("throw ([^;]*;)").matcher(code);
        Pattern written = Pattern.compile("new (IndexOutOfBoundsException|IllegalArgumentException)\\(\"[^\"]*\"\\);");
        while (matcher.find()) {
            CHECK.isTrue(matcher.group(), written.matcher(matcher.group(1)).matches());
        }
    }

    private static void statics(String code) {
        Matcher matcher = Pattern.compile("(?m)^ *(?:private )?static (?!final)[^(]*[;=].*$").matcher(code);
        CHECK.same("static fields are final", matcher.find(), false);
        Matcher classes = Pattern.compile("\\bclass \\w+").matcher(code);
        CHECK.isTrue("classes", classes.results().count() <= MOST_CLASSES);
    }

    private static void lengths(String source) {
        String indent = null;
        int length = 0;
        for (String line : source.split("\n")) {
            Matcher head = Pattern.compile("^( {4}| {8})(?=\\S)(?:\\w|\\[|\\]| )*\\(([^)]*)\\).*\\{$").matcher(line);
            if (indent == null && head.matches()) {
                indent = head.group(1);
                length = 0;
                CHECK.isTrue("parameters of " + line.trim(), head.group(2).split(",").length <= MOST_PARAMETERS);
            }
            length++;
            if (indent != null && line.equals(indent + "}")) {
                CHECK.isTrue("a method's length, up to its end " + length, length <= LONGEST_METHOD);
                indent = null;
            }
        }
    }
}
