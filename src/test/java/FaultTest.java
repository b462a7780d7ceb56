import java.lang.reflect.Method;
import java.nio.file.Files;
import java.nio.file.Path;

/**
 * Promise 53 where it is false. No call of a right program leads there, so a fault is put into a copy of the program,
 * one for each thing that isSound() names, and isSound() of the copy has to see it. A fault stands on the program's
 * text: where that text is no longer so, the fault is told as left out, and wants to be written anew.
 */
public final class FaultTest {
    private static final Path SOURCE = Path.of("src/main/java/Exactdoubles.java");
    private static final double ENDLESS = Boards.ENDLESS;
    private static final String FLOOR = "Form.aheadIn(number) + (Form.isDownOne(number) ? 1 : 0)";
    private static final String CEIL = "Form.aheadIn(number) + (Form.isDownOne(number) ? 0 : 1)";
    private static final String UP = "return Form.isDownOne(number) ? number - 1 : number + 1;";
    private static final String DOWN = "return Form.isDownOne(number) ? number + 1 : number - 1;";
    /** 1 and 2 change places for UP and DOWN, which still lead back to each other: so only the ORDER tells. */
    private static final String[] CROSSED = {
        UP, "return Form.isDownOne(number) ? crossed(number - 1) : crossed(number) + 1;",
        DOWN, "return Form.isDownOne(number) ? crossed(number) + 1 : crossed(number - 1);",
        "static long floorFrom(", "static long crossed(long number) { long size = Form.sizeIn(number); long two = Form.ONE + Form.FIRST_DIGIT;"
            + " return Form.joined(size == Form.ONE ? two : size == two ? Form.ONE : size, number); } static long floorFrom("
    };

    private static final Check CHECK = new Check("FaultTest");
    private static int leftOut;

    private final String source;

    private FaultTest(String source) {
        this.source = source;
    }

    public static void main(String[] args) throws Exception {
        FaultTest tests = new FaultTest(Files.readString(SOURCE));
        CHECK.isTrue("no fault, sound", isSound(tests.source, -2.75, -1.5, 0.5, 1, Boards.MOST, -ENDLESS));
        tests.wholes();
        tests.neighbours();
        tests.parts();
        tests.eachTwo();
        tests.byValues();
        tests.digestOfWhatIsNotSound();
        System.out.println("FaultTest: " + leftOut + " faults left out");
        CHECK.finish();
    }

    private void wholes() throws Exception {
        fault("FLOOR is above it, and CEIL below it", numbers(0.5), FLOOR, "(Form.aheadIn(number)) + (Form.isDownOne(number) ? 0 : 1)",
            CEIL, "(Form.aheadIn(number)) + (Form.isDownOne(number) ? 1 : 0)");
        fault("FLOOR is not CEIL of what is turned round", numbers(-0.5), FLOOR, FLOOR.replace("? 1", "? 2"));
        fault("CEIL is not FLOOR of what is turned round", numbers(0.5), CEIL, CEIL.replace(": 1", ": 2"));
        fault("RINT is none of both", numbers(0.75), "Scale.halvedOften(Form.factorIn(number), Form.behindIn(number))",
            "2 + Scale.halvedOften(Form.factorIn(number), Form.behindIn(number))");
        fault("RINT is farther from it", numbers(0.75), "Scale.halvedOften(Form.factorIn(number), Form.behindIn(number))",
            "Form.aheadIn(number)");
        fault("RINT is farther from it, down", numbers(-0.25), "Scale.halvedOften(Form.factorIn(number), Form.behindIn(number))",
            "1 + Form.aheadIn(number)");
    }

    private void neighbours() throws Exception {
        fault("UP and then DOWN does not lead back", numbers(1), UP, UP.replace("+ 1", "+ 2"), DOWN, DOWN.replace("+ 1", "+ 2"));
        String two = "- (Form.sizeIn(number) == 1 ? 1 : 2)";
        fault("DOWN and then UP does not lead back", numbers(1), UP, UP.replace("- 1", two), DOWN, DOWN.replace("- 1", two));
        String far = "(Form.sizeIn(number) == Form.ONE ? 2 : 1)";
        String[] skips = {UP, UP.replace("+ 1", "+ " + far), DOWN, DOWN.replace("+ 1", "+ " + far)};
        fault("UP and then DOWN alone does not lead back", numbers(1), skips);
        fault("DOWN and then UP alone does not lead back", numbers(-1), skips);
        fault("UP is not DOWN of what is turned round", numbers(-Boards.LEAST), DOWN,
            "return number == 1 ? Form.SIDE_DIGIT : Form.isDownOne(number) ? number + 1 : number - 1;");
        fault("DOWN is not UP of what is turned round", numbers(Boards.LEAST), UP,
            "return number == (1 | Form.SIDE_DIGIT) ? 0 : Form.isDownOne(number) ? number - 1 : number + 1;");
    }

    private void parts() throws Exception {
        fault("size and side put together are another", numbers(-1), "return sizeIn(ofSize) | (ofSide & SIDE_DIGIT);",
            "return sizeIn(ofSize);");
        fault("STEP is another of what is turned round", numbers(ENDLESS), "return Form.ENDLESS;\n            }\n            return Scale",
            "return number;\n            }\n            return Scale");
        fault("DIGITS put together are another", numbers(0x1.00000ffffffffp0), "return (int) lowIn(number);",
            "return (int) lowIn(number) & ~(1 << 31);");
    }

    private void eachTwo() throws Exception {
        String floorFault = "(Form.isDownOne(number) ? Form.aheadIn(number) + 1 : Form.aheadIn(number) & ~2L)";
        String ceilFault = "(Form.isDownOne(number) ? Form.aheadIn(number) & ~2L : Form.aheadIn(number) + 1)";
        fault("FLOOR comes behind", numbers(1.5, 2.75), FLOOR, floorFault, CEIL, ceilFault);
        fault("CEIL comes behind", numbers(-2.75, -1.5), FLOOR, floorFault, CEIL, ceilFault);
        fault("SIGN comes behind", numbers(7, 7.5), "Form.sizeIn(number) == 0 ? number : Form.joined(Form.ONE, number)",
            "Form.restIn(number) == 0 ? number : Form.joined(Form.ONE, number)");
        fault("TIMES 2^5 comes behind", numbers(1, 0x1p1019), "return Form.ENDLESS;\n            }\n            return ((long) high",
            "return 0;\n            }\n            return ((long) high");
        fault("ROUND is greater", numbers(-ENDLESS), "return Form.isDownOne(number) ? LEAST : MOST;", "return MOST;");
        fault("UP comes behind", numbers(1, 2), CROSSED);
        fault("UP comes behind, the cells the other way", numbers(2, 1), CROSSED);
        fault("DOWN comes behind", numbers(-2, -1), CROSSED);
        fault("DOWN comes behind, the cells the other way", numbers(-1, -2), CROSSED);
        String times = "static long timesPower(long number, int k) {";
        fault("TIMES 2^5 alone comes behind", numbers(1, 2), times, times + " if (k == 5 && number == Form.ONE) { return Form.ENDLESS; }");
        fault("the greater and the lesser one are not both", numbers(1, 2), "return rankIn(one) >= rankIn(other) ? one : other;",
            "return one;");
    }

    /** The two of the VALUE 0 may change places, for what is taken is in order by VALUES. */
    private void byValues() throws Exception {
        String whole = "return Form.joined(Scale.nearestTo(whole, 0), number);";
        String turned = whole.replace("number)", "whole == 0 ? Form.turned(number) : number)");
        stays("FLOOR that is 0 turned round", numbers(0.0, 0.5), whole, turned);
        stays("CEIL that is 0 turned round", numbers(-0.5, -0.0), whole, turned);
        stays("RINT that is 0 turned round", numbers(0.0, 0.25, -0.25, -0.0), whole, turned);
        stays("SIGN of 0 turned round", numbers(-0.0, 0.0), "Form.sizeIn(number) == 0 ? number", "Form.sizeIn(number) == 0 ? Form.turned(number)");
        stays("SIGN of 0 that is 1, which -0 comes ahead of", numbers(0.0, -0.0), "Form.sizeIn(number) == 0 ? number",
            "number == 0 ? Form.ONE : Form.sizeIn(number) == 0 ? number");
        String zero = "if (Form.sizeIn(number) == 0 || Form.isEndlessOne(number)) {\n                return ";
        stays("TIMES 2^5 of 0 turned round", numbers(-0.0, 0.0), zero, zero + "Form.sizeIn(number) == 0 ? Form.turned(number) : ");
    }

    /** Promise 54's last value: of a copy in which nothing but isSound() is another, the digest is one less. */
    private void digestOfWhatIsNotSound() throws Exception {
        String head = "boolean holdsFor(long[] numbers) {";
        CHECK.isTrue("there is " + head, source.contains(head));
        Class<?> type = compiled(source.replace(head, head + " if (numbers[0] == Form.ONE) { return false; }"));
        Object board = with(type, 1, 2.5);
        CHECK.same("sound", type.getMethod("isSound").invoke(board), false);
        CHECK.same("its digest", type.getMethod("digest").invoke(board), Boards.with(1, 2.5).digest() - 1);
        board = with(type, 2.5, 1);
        CHECK.same("sound", type.getMethod("isSound").invoke(board), true);
        CHECK.same("its digest", type.getMethod("digest").invoke(board), Boards.with(2.5, 1).digest());
    }

    private static double[] numbers(double... numbers) {
        return numbers;
    }

    private void fault(String what, double[] numbers, String... texts) throws Exception {
        String faulty = changed(what, texts);
        if (!faulty.isEmpty()) {
            CHECK.same(what + ", sound", isSound(faulty, numbers), false);
            CHECK.isTrue(what + ", sound where it does not show", isSound(faulty));
        }
    }

    private void stays(String what, double[] numbers, String... texts) throws Exception {
        String faulty = changed(what, texts);
        if (!faulty.isEmpty()) {
            CHECK.isTrue(what + ", sound", isSound(faulty, numbers));
        }
    }

    /** Puts each second text in the place of the one ahead of it; empty, if one is not there. */
    private String changed(String what, String... texts) {
        String faulty = source;
        for (int at = 0; at < texts.length; at += 2) {
            if (!faulty.contains(texts[at])) {
                leftOut++;
                System.out.println("FaultTest: left out, for its text is not there: " + what);
                return "";
            }
            faulty = faulty.replace(texts[at], texts[at + 1]);
        }
        return faulty;
    }

    private static boolean isSound(String source, double... numbers) throws Exception {
        Class<?> type = compiled(source);
        return (Boolean) type.getMethod("isSound").invoke(with(type, numbers));
    }

    private static Class<?> compiled(String source) throws Exception {
        Compiled copy = new Compiled(source);
        CHECK.isTrue("the copy compiles", copy.isWhole());
        return copy.loadClass("Exactdoubles");
    }

    private static Object with(Class<?> type, double... numbers) throws Exception {
        Object board = type.getConstructor().newInstance();
        Method bits = type.getMethod("bits", int.class, int.class, int.class);
        for (int cell = 0; cell < numbers.length; cell++) {
            long digits = Double.doubleToRawLongBits(numbers[cell]);
            bits.invoke(board, cell, (int) (digits >> 32), (int) digits);
        }
        return board;
    }
}
