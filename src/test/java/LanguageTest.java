import java.nio.file.Files;
import java.nio.file.Path;
import java.util.List;
import java.util.Set;
import java.util.stream.Collectors;
import java.util.stream.Stream;

/**
 * The rules of LANGUAGE.md: the program breaks none that Rules can see, and Rules does see it where a copy of the
 * program breaks one. (That the machine never throws, rule 7, is looked at by all tests that compare what is thrown.)
 */
public final class LanguageTest {
    private static final Path FOLDER = Path.of("src/main/java");
    private static final String PLAIN = "private static int ";

    private final Check check = new Check("LanguageTest");
    private final String source;

    private LanguageTest(String source) {
        this.source = source;
    }

    public static void main(String[] args) throws Exception {
        LanguageTest tests = new LanguageTest(Files.readString(FOLDER.resolve("Exactdoubles.java")));
        tests.check.runTests(tests);
        tests.check.finish();
    }

    void theProgramIsOneFile() throws Exception {
        try (Stream<Path> files = Files.walk(FOLDER)) {
            List<Path> found = files.filter(Files::isRegularFile).collect(Collectors.toList());
            check.same("files of the program", found, List.of(FOLDER.resolve("Exactdoubles.java")));
        }
    }

    void theProgramBreaksNoRule() throws Exception {
        check.same("rules that are broken", Rules.broken(source), List.of());
    }

    void thePartOfTheLanguageIsTheOneThatIsLookedAt() throws Exception {
        String rules = Files.readString(Path.of("../shared/LANGUAGE.md"));
        for (int rule = 1; rule <= 13; rule++) {
            check.isTrue("there is a rule " + rule, rules.contains("\n" + rule + ". "));
        }
        check.same("there is a rule 14", rules.contains("\n14. "), false);
    }

    /** A copy with these members more breaks just this rule. */
    private void adds(int rule, String members) throws Exception {
        int end = source.lastIndexOf('}');
        breaks(rule, members, source.substring(0, end) + members + "\n}\n");
    }

    private void allows(String members) throws Exception {
        int end = source.lastIndexOf('}');
        check.same("rules broken by " + members, Rules.broken(source.substring(0, end) + members + "\n}\n"), List.of());
    }

    private void breaks(int rule, String what, String copy) throws Exception {
        List<String> broken = Rules.broken(copy);
        check.same("rules broken by " + what + " " + broken, Rules.numbers(broken), Set.of(rule));
    }

    void whatIsAllowed() throws Exception {
        allows("private static int plain(int x) { return Math.floorMod(x, 7) + Long.compare(x, 2L) + Integer.bitCount(x); }");
        allows("private static int row(long[] of) { int x = 0; for (long one : of) { x += (int) (one % 3); } return x; }");
        allows("private static long[] copied(long[] of) { return java.util.Arrays.copyOf(of.clone(), 3); }");
        allows("private static String told(int x) { StringBuilder b = new StringBuilder(); b.append(x).append(\"E\"); return b.toString(); }");
        allows("private static void held() { java.util.ArrayList<Integer> x = new java.util.ArrayList<>(); x.add(7); x.clear(); }");
        allows("private static int caught() { try { requireCell(6); return 0; } catch (IndexOutOfBoundsException e) { return 1; } }");
    }

    void rule1() throws Exception {
        adds(1, "int seen() { return 0; }");
        adds(1, "public int seenByAll;");
        adds(1, "static final int SEEN = 1;");
        adds(1, "protected static int seen() { return 0; }");
        adds(1, "private int floor(int x) { return x; }");
        adds(1, "private static final class Other { private int digest() { return 0; } }");
        adds(1, "public static final class Open { }");
        adds(1, "private final class Bound { }");
        breaks(1, "a package line", "package some.where;\n" + source);
        breaks(1, "another class beside", source + "final class Beside { }\n");
        breaks(1, "a class that is not final", source.replace("public final class Exactdoubles", "public class Exactdoubles"));
    }

    void rule2() throws Exception {
        adds(2, PLAIN + "local(int x) { class Local { int y() { return x; } } return new Local().y(); }");
        adds(2, "private interface Asking { int of(int x); } " + PLAIN + "lambda() { Asking one = x -> x; return one.of(2); }");
        adds(2, "private interface Asking { int of(int x); } " + PLAIN + "reference() { Asking one = Exactdoubles::signOf; return one.of(2); }");
    }

    void rule3() throws Exception {
        adds(3, PLAIN + "any(Object x) { return 0; }");
        adds(3, PLAIN + "texts(String[] x) { return 0; }");
        adds(3, PLAIN + "signs(char[][] x) { return 0; }");
        adds(3, PLAIN + "deep(int[][][] x) { return 0; }");
        adds(3, PLAIN + "held(java.util.List<String> x) { return 0; }");
        adds(3, PLAIN + "mapped(java.util.HashMap<Integer, Integer> x) { return 0; }");
        adds(3, "private static Long kept() { return 0L; }");
    }

    void rule4() throws Exception {
        adds(4, PLAIN + "trimmed(String x) { return x.trim().length(); }");
        adds(4, PLAIN + "found(String x) { return x.indexOf(\"a\"); }");
        adds(4, "private static String whole(long x) { return Long.toString(x); }");
        adds(4, "private static String joined(long x) { StringBuilder b = new StringBuilder(); b.append(x); return b.toString(); }");
        adds(4, "private static double root(double x) { return Math.sqrt(x); }");
        adds(4, "private static double greater(double x) { return Math.max(x, 1.5); }");
        adds(4, "private static long exact(long x) { return Math.addExact(x, 1L); }");
        adds(4, "private static long rawDigits(double x) { return Double.doubleToLongBits(x); }");
        adds(4, "private static long most() { return Long.MAX_VALUE; }");
        adds(4, "private static final class Own implements Cloneable { }");
        adds(4, "private static void sorted(long[] x) { java.util.Arrays.sort(x); }");
        adds(4, "private static String beyond() { return \"\u00e9\"; }");
        adds(4, "private static char beyond() { return '\u00e9'; }");
    }

    void rule5() throws Exception {
        adds(5, "private static int kept = 1;");
        adds(5, "private static final long[] ROW = new long[6];");
        adds(5, "private static final StringBuilder TEXT = new StringBuilder();");
        adds(5, "private static final int WORKED_OUT = signOf(3L);");
        adds(5, "private static final int[] ROW = {1, 2}; static { ROW[0] = 2; }");
        adds(5, PLAIN + "changed() { SAMPLE_POWERS[0] = 2; return 0; }");
        adds(5, PLAIN + "changed() { SAMPLE_POWERS[0] += 2; return 0; }");
        adds(5, PLAIN + "changed() { SAMPLE_POWERS[0]++; return 0; }");
    }

    void rule6() throws Exception {
        adds(6, PLAIN + "thrown() { throw new SecurityException(); }");
        adds(6, "private static String thrown(String x) { throw new IllegalArgumentException(x); }");
        adds(6, PLAIN + "again() { try { requireCell(6); } catch (RuntimeException e) { throw e; } return 0; }");
        adds(6, PLAIN + "both(int x) { try { requireCell(x); } catch (RuntimeException e) { return 0; } throw new RuntimeException(); }");
        adds(6, PLAIN + "caught(int[] x) { try { return x[7]; } catch (ArrayIndexOutOfBoundsException e) { return 0; } }");
        adds(6, PLAIN + "caught(int[] x) { try { return x[7]; } catch (Exception e) { return 0; } }");
        adds(6, PLAIN + "either() { try { requireCell(6); return 1; } catch (NullPointerException | IllegalStateException e) { return 0; } }");
        adds(6, PLAIN + "last() { try { requireCell(6); } finally { signOf(1L); } return 0; }");
        adds(6, PLAIN + "checked(int x) { assert x > 0; return x; }");
        adds(6, "private synchronized int alone() { return 0; }");
        adds(6, "private int alone() { synchronized (this) { return 0; } }");
        adds(6, PLAIN + "same(String x) { return x == \"a\" ? 1 : 0; }");
        adds(6, "private static final class Own extends RuntimeException { private static final long serialVersionUID = 1L; }");
        adds(6, "private static final class Own { public int hashCode() { return 1; } }");
        breaks(6, "throw in a constructor", source.replace("cells = new long[CELLS];",
            "cells = new long[CELLS]; if (CELLS > 7) { throw new IllegalStateException(); }"));
    }

    void rule7() throws Exception {
        adds(7, PLAIN + "divided(int x) { return 7 / x; }");
        adds(7, PLAIN + "rest(int x) { return 7 % x; }");
        adds(7, PLAIN + "divided(int x) { int y = 7; y /= x; return y; }");
        adds(7, "private static long[] made(int x) { return new long[x]; }");
        adds(7, "private interface Kind { } private static final class One implements Kind { } "
            + "private static One cast(Kind x) { return (One) x; }");
    }

    void rule8() throws Exception {
        adds(8, PLAIN + "deep(int x) { return deep(x - 1); }");
        adds(8, PLAIN + "one(int x) { return other(x); } " + PLAIN + "other(int x) { return x > 0 ? one(x - 1) : 0; }");
    }

    void rule9() throws Exception {
        adds(9, PLAIN + "again(int x) { while (true) { if (x > 2) { return x; } } }");
        adds(9, PLAIN + "again(int x) { for (;;) { if (x > 2) { return x; } } }");
        adds(9, PLAIN + "again(int x) { do { if (x > 2) { return x; } } while (true); }");
    }

    void rule10() throws Exception {
        adds(10, "private static String joined(int x) { return \"a\" + x; }");
        adds(10, PLAIN + "chosen(String x) { switch (x) { case \"a\": return 1; default: return 2; } }");
        adds(10, "private static String joined(String x) { String y = x; y += x; return y; }");
    }

    void rule11() throws Exception {
        adds(11, PLAIN + "many(int a, int b, int c, int d, int e, int f, int g, int h) { return a; }");
        adds(11, PLAIN + "longOne(int x) { int y = x;" + "\n y++;".repeat(70) + " return y; }");
        StringBuilder fields = new StringBuilder();
        StringBuilder classes = new StringBuilder();
        for (int at = 0; at < 21; at++) {
            fields.append("private int field").append(at).append(";\n");
            classes.append("private static final class Class").append(at).append(" { }\n");
        }
        adds(11, "private static final class Wide { " + fields + " }");
        adds(11, classes.toString());
        StringBuilder steps = new StringBuilder();
        for (int at = 1; at < 9; at++) {
            steps.append(PLAIN).append("deep").append(at).append("() { return ").append(at < 8 ? "deep" + (at + 1) + "()" : "1").append("; }\n");
        }
        int end = source.lastIndexOf('}');
        String copy = source.substring(0, end) + steps + "}\n";
        check.same("calls of no public method", Rules.broken(copy), List.of());
        breaks(11, "calls nine deep", copy.replace("        knocks++;", "        knocks += deep1();"));
        check.same("calls eight deep", Rules.broken(copy.replace("        knocks++;", "        knocks += deep2();")), List.of());
    }

    void rule12() throws Exception {
        adds(12, "private static int made(int x) { int y = 0; while (y < x) { y += new StringBuilder().length() + 1; } return y; }");
        adds(12, "private static int made(int x) { int y = 0; for (int z = 0; z < x; z++) { y += new int[2].length; } return y; }");
        adds(12, "private static int held(java.util.List<Integer> x) { int y = 0; for (int one : x) { y += one; } return y; }");
        adds(12, "private static class Base { private final int x; Base() { x = next(); } int next() { return 1; } }");
        adds(12, "private static final class Own { private final Own me; Own() { me = this; } }");
    }

    void rule13() throws Exception {
        adds(13, "private static long clock() { return System.nanoTime(); }");
        adds(13, "private static long clock() { return java.time.Instant.now().getEpochSecond(); }");
        adds(13, "private static void slept() { Thread.yield(); }");
        adds(13, "private static int told() { return new java.util.Random(3).nextInt(); }");
        adds(13, "private static boolean there() { return new java.io.File(\"x\").exists(); }");
    }
}
