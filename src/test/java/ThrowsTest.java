import java.lang.reflect.InvocationTargetException;
import java.lang.reflect.Method;
import java.nio.file.Files;
import java.nio.file.Path;
import java.util.ArrayList;
import java.util.Arrays;
import java.util.List;
import java.util.regex.Matcher;
import java.util.regex.Pattern;

/**
 * Each "Throws" sentence on both sides of its bound, with every mixture of allowed and wrong arguments: the exception
 * that is named first is thrown and nothing changes; with allowed ones nothing is thrown and the model's answer is due.
 */
public final class ThrowsTest {
    private static final Class<? extends RuntimeException> NO_CELL = IndexOutOfBoundsException.class;
    private static final Class<? extends RuntimeException> ILLEGAL = IllegalArgumentException.class;
    private static final double[] NUMBERS = {
        1.5, -0.0, 7, Boards.ENDLESS, -Boards.LEAST, Boards.MOST
    };

    /** What a parameter may be, and what is thrown of it beyond that. */
    private record Parameter(Class<?> type, Object[] allowed, Object[] wrong, Class<? extends RuntimeException> thrown) {
    }

    private record Promise(int number, String name, Parameter... parameters) {
        Class<?>[] types() {
            return Arrays.stream(parameters).map(Parameter::type).toArray(Class<?>[]::new);
        }
    }

    private static final Parameter CELL = within(0, 5, NO_CELL);
    private static final Parameter EITHER = new Parameter(boolean.class, new Object[] {false, true}, new Object[0], null);
    private static final Parameter ANY = new Parameter(int.class,
        new Object[] {Integer.MIN_VALUE, -1, 0, 1, Integer.MAX_VALUE}, new Object[0], null);

    private static final Promise[] PROMISES = {
        new Promise(2, "zero", CELL, EITHER),
        new Promise(3, "endless", CELL, EITHER),
        new Promise(4, "quarters", CELL, ANY),
        new Promise(5, "power", CELL, within(-1100, 1100, ILLEGAL), EITHER),
        new Promise(6, "bits", CELL, ANY, ANY),
        new Promise(7, "sample", CELL, within(0, 11, ILLEGAL), EITHER),
        new Promise(8, "copy", CELL, CELL),
        new Promise(9, "swap", CELL, CELL),
        new Promise(10, "floor", CELL, CELL),
        new Promise(11, "ceil", CELL, CELL),
        new Promise(12, "rint", CELL, CELL),
        new Promise(13, "size", CELL, CELL),
        new Promise(14, "turn", CELL, CELL),
        new Promise(15, "sign", CELL, CELL),
        new Promise(16, "up", CELL, CELL),
        new Promise(17, "down", CELL, CELL),
        new Promise(18, "step", CELL, CELL),
        new Promise(19, "unit", CELL, CELL),
        new Promise(20, "times", CELL, ANY, CELL),
        new Promise(21, "side", CELL, CELL, CELL),
        new Promise(22, "max", CELL, CELL, CELL),
        new Promise(23, "min", CELL, CELL, CELL),
        new Promise(24, "walk", CELL, within(-40, 40, ILLEGAL)),
        new Promise(25, "kind", CELL),
        new Promise(26, "digits", CELL, within(0, 3, ILLEGAL)),
        new Promise(27, "text", CELL),
        new Promise(28, "exponent", CELL),
        new Promise(29, "round", CELL, EITHER),
        new Promise(30, "rounded", CELL),
        new Promise(31, "cut", CELL),
        new Promise(32, "shortened", CELL),
        new Promise(33, "signed", CELL),
        new Promise(34, "isWhole", CELL),
        new Promise(35, "compare", CELL, CELL),
        new Promise(36, "areLike", CELL, CELL),
        new Promise(37, "isBelow", CELL, CELL),
        new Promise(38, "areSame", CELL, CELL),
        new Promise(39, "isNext", CELL, CELL),
        new Promise(40, "apart", CELL, CELL),
        new Promise(41, "place", CELL),
        new Promise(42, "floorOf", CELL),
        new Promise(43, "ceilOf", CELL),
        new Promise(44, "rintOf", CELL),
        new Promise(45, "stepOf", CELL),
        new Promise(46, "nextOf", CELL, EITHER),
        new Promise(47, "timesOf", CELL, ANY),
        new Promise(48, "isBack", CELL, within(-2200, 2200, ILLEGAL)),
        new Promise(49, "greatest"),
        new Promise(50, "least"),
        new Promise(51, "knock"),
        new Promise(52, "house", within(0, 3, ILLEGAL)),
        new Promise(53, "isSound"),
        new Promise(54, "digest"),
    };

    private final Check check = new Check("ThrowsTest");

    public static void main(String[] args) throws Exception {
        ThrowsTest tests = new ThrowsTest();
        tests.check.runTests(tests);
        tests.check.finish();
    }

    private static Parameter within(int least, int most, Class<? extends RuntimeException> thrown) {
        Object[] allowed = {least, least + 1, most - 1, most};
        Object[] wrong = {least - 1, most + 1, Integer.MIN_VALUE, Integer.MAX_VALUE};
        return new Parameter(int.class, allowed, wrong, thrown);
    }

    /** So no sentence of the document is left out. */
    void theDocumentThrowsNothingElse() throws Exception {
        String text = Files.readString(Path.of("../shared/DOC.md"));
        String[] parts = text.split("(?m)^## Promise ");
        check.same("promises", parts.length - 1, 54);
        for (Promise promise : PROMISES) {
            String part = parts[promise.number];
            check.isTrue("promise " + promise.number + " is " + promise.name,
                part.startsWith(promise.number + ": " + promise.name + "\n"));
            List<String> due = new ArrayList<>();
            Matcher matcher = Pattern.compile("(?m)^Throws `(\\w+)`").matcher(part);
            while (matcher.find()) {
                due.add(matcher.group(1));
            }
            check.same("what promise " + promise.number + " throws, the first first", thrownBy(promise), due);
        }
    }

    private static List<String> thrownBy(Promise promise) {
        List<String> thrown = new ArrayList<>();
        for (Class<? extends RuntimeException> one : List.of(NO_CELL, ILLEGAL)) {
            if (Arrays.stream(promise.parameters).anyMatch(parameter -> parameter.thrown == one)) {
                thrown.add(one.getSimpleName());
            }
        }
        return thrown;
    }

    void everyMixtureOfArguments() throws Exception {
        for (Promise promise : PROMISES) {
            mixtures(promise, new Object[promise.parameters.length], 0, null);
        }
    }

    private void mixtures(Promise promise, Object[] arguments, int at, Class<?> due) throws Exception {
        if (at == arguments.length) {
            if (due == null) {
                allowed(promise, arguments);
            } else {
                refused(promise, arguments, due);
            }
            return;
        }
        Parameter parameter = promise.parameters[at];
        for (Object argument : parameter.allowed) {
            arguments[at] = argument;
            mixtures(promise, arguments, at + 1, due);
        }
        for (Object argument : parameter.wrong) {
            arguments[at] = argument;
            mixtures(promise, arguments, at + 1, due == NO_CELL ? due : parameter.thrown);
        }
    }

    private static String told(Promise promise, Object[] arguments) {
        return "promise " + promise.number + ", " + promise.name + Arrays.toString(arguments);
    }

    private void refused(Promise promise, Object[] arguments, Class<?> due) throws Exception {
        Exactdoubles board = Boards.with(NUMBERS);
        board.knock();
        List<Object> before = Boards.answers(board);
        Object got = answer(Exactdoubles.class.getMethod(promise.name, promise.types()), board, arguments);
        check.same(told(promise, arguments) + " throws", got, due);
        check.same(told(promise, arguments) + " changes nothing", Boards.answers(board), before);
    }

    private void allowed(Promise promise, Object[] arguments) throws Exception {
        Exactdoubles board = Boards.with(NUMBERS);
        Model model = new Model();
        for (int cell = 0; cell < NUMBERS.length; cell++) {
            long digits = Double.doubleToRawLongBits(NUMBERS[cell]);
            model.bits(cell, (int) (digits >> 32), (int) digits);
        }
        Object got = answer(Exactdoubles.class.getMethod(promise.name, promise.types()), board, arguments);
        Object due = answer(Model.class.getMethod(promise.name, promise.types()), model, arguments);
        check.same(told(promise, arguments), got, due);
        check.same("the digest after " + told(promise, arguments), board.digest(), model.digest());
    }

    private static Object answer(Method method, Object board, Object[] arguments) throws Exception {
        method.setAccessible(true);
        try {
            return method.invoke(board, arguments);
        } catch (InvocationTargetException e) {
            return e.getCause().getClass();
        }
    }
}
