import java.lang.reflect.Method;
import java.lang.reflect.Modifier;
import java.util.Set;

/** Promise 52 (and 51): what is counted, by which call, and what is not. */
public final class CountTest {
    private static final int REFUSED = -9;
    private static final int GIVEN = 0;
    private static final int TOLD_REFUSED = 1;
    private static final int KNOCKS = 2;
    private static final int WHOLE = 3;
    private static final Set<String> GIVING = Set.of(
        "zero", "endless", "quarters", "power", "bits", "sample", "copy", "swap", "floor", "ceil", "rint", "size", "turn",
        "sign", "up", "down", "step", "unit", "times", "side", "max", "min", "walk");

    private final Check check = new Check("CountTest");

    public static void main(String[] args) throws Exception {
        CountTest tests = new CountTest();
        tests.check.runTests(tests);
        tests.check.finish();
    }

    private void counts(String what, Exactdoubles board, int given, int refused, int knocks) {
        check.same("given after " + what, board.house(GIVEN), given);
        check.same("refused after " + what, board.house(TOLD_REFUSED), refused);
        check.same("knocks after " + what, board.house(KNOCKS), knocks);
    }

    /** Cells 0 to 5 have numbers already, so six are given. */
    private static Exactdoubles six() {
        return Boards.with(1.5, -0.0, 7, Boards.ENDLESS, -Boards.LEAST, Boards.MOST);
    }

    void nothingAtFirst() {
        Exactdoubles board = new Exactdoubles();
        counts("making a board", board, 0, 0, 0);
        check.same("whole ones at first", board.house(WHOLE), 6);
    }

    void eachMethodCountsWhatItGives() throws Exception {
        int methods = 0;
        for (Method method : Exactdoubles.class.getDeclaredMethods()) {
            if (!Modifier.isPublic(method.getModifiers())) {
                continue;
            }
            methods++;
            String name = method.getName();
            int given = name.equals("swap") ? 2 : GIVING.contains(name) ? 1 : 0;
            for (int first = 0; first < 4; first++) {
                Exactdoubles board = six();
                method.invoke(board, arguments(method, first));
                counts(name, board, 6 + given, 0, name.equals("knock") ? 1 : 0);
            }
        }
        check.same("methods", methods, 53);
    }

    /** 0 to 5 are cells, and as k or many they are allowed everywhere too. */
    private static Object[] arguments(Method method, int first) {
        Class<?>[] types = method.getParameterTypes();
        Object[] arguments = new Object[types.length];
        for (int at = 0; at < types.length; at++) {
            if (types[at] == boolean.class) {
                arguments[at] = first % 2 == 0;
            } else {
                arguments[at] = (first + at) % 4;
            }
        }
        return arguments;
    }

    void alsoTheNumberThatItHas() {
        Exactdoubles board = six();
        board.copy(0, 0);
        counts("copy to itself", board, 7, 0, 0);
        board.zero(1, true);
        counts("zero where it is", board, 8, 0, 0);
        board.endless(3, false);
        counts("endless where it is", board, 9, 0, 0);
        board.times(0, 0, 0);
        counts("times 2^0", board, 10, 0, 0);
        board.floor(2, 2);
        counts("floor of a whole one", board, 11, 0, 0);
        board.up(3, 3);
        counts("up at the end", board, 12, 0, 0);
        board.max(0, 0, 0);
        counts("the greater one of itself", board, 13, 0, 0);
    }

    void swapCountsTwo() {
        Exactdoubles board = six();
        board.swap(0, 5);
        counts("swap", board, 8, 0, 0);
        board.swap(2, 2);
        counts("swap with itself", board, 10, 0, 0);
    }

    void walkCountsOnce() {
        Exactdoubles board = six();
        board.walk(0, 0);
        counts("walk by 0", board, 7, 0, 0);
        board.walk(0, 1);
        counts("walk by 1", board, 8, 0, 0);
        board.walk(0, 40);
        counts("walk by 40", board, 9, 0, 0);
        board.walk(0, -40);
        counts("walk by -40", board, 10, 0, 0);
        board.walk(3, 40);
        counts("walk at the end", board, 11, 0, 0);
    }

    void refusedIsCountedApart() {
        Exactdoubles board = six();
        check.same("bits of no number", board.bits(0, 0x7ff00000, 1), REFUSED);
        counts("one refused", board, 6, 1, 0);
        check.same("bits of no number", board.bits(0, -1, -1), REFUSED);
        counts("two refused", board, 6, 2, 0);
        check.same("bits of a number", board.bits(0, 0x7ff00000, 0), 4);
        counts("one taken", board, 7, 2, 0);
    }

    void exceptionsGoAheadOfRefused() {
        for (int cell : new int[] {-1, 6}) {
            Exactdoubles board = six();
            check.refuses("bits of no number in cell " + cell, IndexOutOfBoundsException.class, board,
                x -> x.bits(cell, 0x7ff00000, 1));
            counts("an exception", board, 6, 0, 0);
        }
    }

    void exceptionsAreNotCounted() {
        Exactdoubles board = six();
        check.refuses("walk too far", IllegalArgumentException.class, board, x -> x.walk(0, 41));
        check.refuses("swap with no cell", IndexOutOfBoundsException.class, board, x -> x.swap(0, 6));
        check.refuses("house of nothing", IllegalArgumentException.class, board, x -> x.house(4));
        counts("exceptions", board, 6, 0, 0);
    }

    void knocks() {
        Exactdoubles board = six();
        for (int times = 1; times <= 400; times++) {
            check.same("knock", board.knock(), times);
        }
        counts("knocks", board, 6, 0, 400);
        counts("knocks elsewhere", new Exactdoubles(), 0, 0, 0);
    }

    void askingIsNotCounted() {
        Exactdoubles board = six();
        Boards.answers(board);
        counts("asking", board, 6, 0, 0);
    }

    void wholeOnesAreThoseOfTheKindsNothingAndThree() {
        double[] whole = {0, 1, 0x1p52 - 1, 0x1p52, 0x1p53 - 1, Boards.MOST};
        double[] others = {
            Boards.LEAST, Boards.NORMAL - Boards.LEAST, Boards.NORMAL, 1 - 0x1p-53, 0x1p52 - 0.5, Boards.ENDLESS
        };
        for (int count = 0; count <= 6; count++) {
            double[] numbers = new double[6];
            for (int cell = 0; cell < 6; cell++) {
                numbers[cell] = cell < count ? -whole[cell] : others[cell];
            }
            check.same(count + " whole ones", Boards.with(numbers).house(WHOLE), count);
            check.same("the others are whole", Boards.with(whole).house(WHOLE), 6);
        }
    }

    void wholeOnesFollowTheCells() {
        Exactdoubles board = new Exactdoubles();
        for (int cell = 0; cell < 6; cell++) {
            board.quarters(cell, 1);
            check.same("whole ones left", board.house(WHOLE), 5 - cell);
        }
        for (int cell = 0; cell < 6; cell++) {
            board.rint(cell, cell);
            check.same("whole ones again", board.house(WHOLE), cell + 1);
        }
    }
}
