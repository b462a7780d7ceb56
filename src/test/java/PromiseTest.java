/** Promise by promise: ordinary inputs, the edges that the document names, wrong inputs. */
public final class PromiseTest {
    private static final int[] NO_CELLS = {-1, 6, Integer.MIN_VALUE, Integer.MAX_VALUE};
    private static final int REFUSED = -9;
    private static final int NONE = -1;

    private static final double LEAST = 0x1p-1074;
    private static final double NORMAL = 0x1p-1022;
    private static final double MOST = Double.MAX_VALUE;
    private static final double ENDLESS = Double.POSITIVE_INFINITY;

    private final Check check = new Check("PromiseTest");

    public static void main(String[] args) throws Exception {
        PromiseTest test = new PromiseTest();
        test.check.same("promises tested", test.check.runTests(test), 54);
        test.check.finish();
    }

    // ---- what the tests share

    private static Exactdoubles board(double... numbers) {
        return Boards.with(numbers);
    }

    private static void put(Exactdoubles board, int cell, double number) {
        Boards.put(board, cell, number);
    }

    private static long digits(Exactdoubles board, int cell) {
        return Boards.digits(board, cell);
    }

    private void has(String what, Exactdoubles board, int cell, double due) {
        check.same(what + ", cell " + cell, Boards.number(board, cell), due);
    }

    private void noCell(String what, CellCall call) {
        for (int cell : NO_CELLS) {
            check.refuses(what + " of cell " + cell, IndexOutOfBoundsException.class, board(1.5, -0.0, 7, ENDLESS),
                board -> call.on(board, cell));
        }
    }

    private void illegal(String what, Check.Call call) {
        check.refuses(what, IllegalArgumentException.class, board(1.5, -0.0, 7, ENDLESS), call);
    }

    private interface CellCall {
        void on(Exactdoubles board, int cell);
    }

    private interface Taking {
        int on(Exactdoubles board, int from, int into);
    }

    /** A taking leaves the cell that it takes from, also writes over it, counts, and tells the kind. */
    private void takes(String what, Taking taking, double from, double due) {
        Exactdoubles board = board(from, 3.5);
        int kind = taking.on(board, 0, 1);
        has(what + " of " + from, board, 1, due);
        has(what + " leaves " + from, board, 0, from);
        check.same(what + " of " + from + " tells the kind", kind, board.kind(1));
        check.same(what + " counts", board.house(0), 3);
        Exactdoubles same = board(0, 0, 0, 0, 0, from);
        taking.on(same, 5, 5);
        has(what + " of " + from + " into the same", same, 5, due);
    }

    private void takesNoCell(String what, Taking taking) {
        noCell(what + " from", (board, cell) -> taking.on(board, cell, 0));
        noCell(what + " into", (board, cell) -> taking.on(board, 0, cell));
    }

    private interface Telling {
        Object on(Exactdoubles board, int cell);
    }

    /** An asking of a cell, and the same with another cell in its way, changes nothing. */
    private void tells(String what, Telling telling, double number, Object due) {
        Exactdoubles board = board(9.25, number);
        long before = board.digest();
        check.same(what + " of " + number, telling.on(board, 1), due);
        check.same(what + " changes nothing", board.digest(), before);
    }

    private interface Comparing {
        Object on(Exactdoubles board, int one, int other);
    }

    private void tellsTwo(String what, Comparing comparing, double one, double other, Object due) {
        Exactdoubles board = board(-7.75, one, other);
        long before = board.digest();
        check.same(what + " of " + one + " and " + other, comparing.on(board, 1, 2), due);
        check.same(what + " changes nothing", board.digest(), before);
    }

    private void tellsNoTwo(String what, Comparing comparing) {
        noCell(what + " first", (board, cell) -> comparing.on(board, cell, 0));
        noCell(what + " second", (board, cell) -> comparing.on(board, 0, cell));
    }

    // ---- the promises

    void promise1() {
        Exactdoubles board = new Exactdoubles();
        for (int cell = 0; cell < 6; cell++) {
            check.same("a new cell", digits(board, cell), 0L);
            check.same("a new cell's kind", board.kind(cell), 0);
        }
        check.same("given to a new board", board.house(0), 0);
        check.same("refused by a new board", board.house(1), 0);
        check.same("knocks at a new board", board.house(2), 0);
        check.same("whole ones of a new board", board.house(3), 6);
        board.zero(0, true);
        check.same("another board", new Exactdoubles().digits(0, 0), 0);
    }

    void promise2() {
        Exactdoubles board = board(1.5, 1.5);
        check.same("zero up", board.zero(0, false), 0);
        check.same("zero down", board.zero(1, true), 0);
        has("zero up", board, 0, 0.0);
        has("zero down", board, 1, -0.0);
        check.same("zero counts", board.house(0), 4);
        noCell("zero", (x, cell) -> x.zero(cell, true));
    }

    void promise3() {
        Exactdoubles board = board(1.5, 1.5);
        check.same("endless up", board.endless(0, false), 4);
        check.same("endless down", board.endless(5, true), 4);
        has("endless up", board, 0, ENDLESS);
        has("endless down", board, 5, -ENDLESS);
        has("endless elsewhere", board, 1, 1.5);
        check.same("endless counts", board.house(0), 4);
        noCell("endless", (x, cell) -> x.endless(cell, false));
    }

    void promise4() {
        int[] many = {0, 1, 2, 3, 4, -1, -4, -6, 10, 1 << 30, Integer.MAX_VALUE, Integer.MIN_VALUE, Integer.MIN_VALUE + 1};
        for (int number : many) {
            Exactdoubles board = board(-0.0, -0.0, -0.0);
            int kind = board.quarters(2, number);
            has("quarters of " + number, board, 2, number / 4.0);
            check.same("quarters of " + number + " tells the kind", kind, number == 0 ? 0 : number % 4 == 0 ? 3 : 2);
            check.same("quarters counts", board.house(0), 4);
        }
        noCell("quarters", (x, cell) -> x.quarters(cell, 5));
    }

    void promise5() {
        double[][] powers = {
            {0, 1}, {1, 2}, {-1, 0.5}, {1023, 0x1p1023}, {1024, ENDLESS}, {1100, ENDLESS}, {-1022, NORMAL},
            {-1023, 0x1p-1023}, {-1074, LEAST}, {-1075, 0}, {-1076, 0}, {-1100, 0}
        };
        for (double[] power : powers) {
            Exactdoubles board = board(3);
            int kind = board.power(0, (int) power[0], false);
            has("power " + power[0], board, 0, power[1]);
            check.same("power tells the kind", kind, board.kind(0));
            board.power(0, (int) power[0], true);
            has("power down " + power[0], board, 0, -power[1]);
            check.same("power counts", board.house(0), 3);
        }
        noCell("power", (x, cell) -> x.power(cell, 3, false));
        noCell("power, both wrong", (x, cell) -> x.power(cell, 1101, false));
        for (int k : new int[] {1101, -1101, Integer.MAX_VALUE, Integer.MIN_VALUE}) {
            illegal("power " + k, x -> x.power(0, k, true));
        }
    }

    void promise6() {
        Exactdoubles board = new Exactdoubles();
        check.same("bits of 1", board.bits(0, 0x3ff00000, 0), 3);
        has("bits of 1", board, 0, 1);
        check.same("bits of -1.5", board.bits(1, 0xbff80000, 0), 2);
        has("bits of -1.5", board, 1, -1.5);
        check.same("bits of a LOW of 2^52 - 1", board.bits(2, 0x000fffff, -1), 1);
        has("bits of a LOW of 2^52 - 1", board, 2, NORMAL - LEAST);
        check.same("bits with lower below 0", board.bits(3, 0, -1), 1);
        check.same("lower does not touch upper", digits(board, 3), 0xffffffffL);
        check.same("bits of zero", board.bits(4, Integer.MIN_VALUE, 0), 0);
        has("bits of zero", board, 4, -0.0);
        check.same("bits of endless", board.bits(5, 0x7ff00000, 0), 4);
        check.same("bits of the greatest", board.bits(5, 0x7fefffff, -1), 3);
        has("bits of the greatest", board, 5, MOST);
        check.same("bits counts", board.house(0), 7);
        int[][] wrong = {{0x7ff00000, 1}, {0x7ff00001, 0}, {-1, -1}, {0xfff00000, Integer.MIN_VALUE}, {0x7fffffff, 0}};
        for (int i = 0; i < wrong.length; i++) {
            long before = digits(board, 0);
            check.same("bits of no number", board.bits(0, wrong[i][0], wrong[i][1]), REFUSED);
            check.same("refused changes nothing", digits(board, 0), before);
            check.same("refused is counted", board.house(1), i + 1);
            check.same("refused is not given", board.house(0), 7);
        }
        noCell("bits", (x, cell) -> x.bits(cell, 0, 0));
        noCell("bits of no number", (x, cell) -> x.bits(cell, -1, -1));
    }

    void promise7() {
        String[] texts = {
            "1*2^-1074", "4503599627370495*2^-1074", "1*2^-1022", "9007199254740991*2^971", "9007199254740991*2^-53",
            "9007199254740991*2^-54", "9007199254740991*2^-1", "9007199254740991*2^0", "9007199254740991*2^10",
            "4294967295*2^-1", "5*2^-1", "4503599627370497*2^0"
        };
        int[] kinds = {1, 1, 2, 3, 2, 2, 2, 3, 3, 2, 2, 3};
        for (int which = 0; which < texts.length; which++) {
            Exactdoubles board = new Exactdoubles();
            check.same("sample " + which, board.sample(3, which, false), kinds[which]);
            check.same("sample " + which, board.text(3), texts[which]);
            check.same("sample down " + which, board.sample(4, which, true), kinds[which]);
            check.same("sample down " + which, board.text(4), "-" + texts[which]);
            check.same("sample counts", board.house(0), 2);
        }
        noCell("sample", (x, cell) -> x.sample(cell, 2, false));
        noCell("sample, both wrong", (x, cell) -> x.sample(cell, 12, false));
        for (int which : new int[] {-1, 12, Integer.MIN_VALUE, Integer.MAX_VALUE}) {
            illegal("sample " + which, x -> x.sample(0, which, false));
        }
    }

    void promise8() {
        for (double number : new double[] {0, -0.0, 1.5, -7, LEAST, ENDLESS, -ENDLESS}) {
            takes("copy", Exactdoubles::copy, number, number);
        }
        takesNoCell("copy", Exactdoubles::copy);
    }

    void promise9() {
        Exactdoubles board = board(1.5, -ENDLESS);
        check.same("swap", board.swap(0, 1), 4);
        has("swap", board, 0, -ENDLESS);
        has("swap", board, 1, 1.5);
        check.same("swap counts two", board.house(0), 4);
        check.same("swap with itself", board.swap(1, 1), 2);
        has("swap with itself", board, 1, 1.5);
        check.same("swap with itself counts two", board.house(0), 6);
        takesNoCell("swap", Exactdoubles::swap);
    }

    void promise10() {
        double[][] due = {
            {0, 0}, {-0.0, -0.0}, {0.25, 0}, {-0.25, -1}, {1.5, 1}, {-1.5, -2}, {7, 7}, {-7, -7}, {LEAST, 0}, {-LEAST, -1},
            {NORMAL, 0}, {-NORMAL, -1}, {1 - 0x1p-53, 0}, {0x1p52 - 0.5, 0x1p52 - 1}, {0.5 - 0x1p52, -0x1p52},
            {0x1p53 - 1, 0x1p53 - 1}, {MOST, MOST}, {ENDLESS, ENDLESS}, {-ENDLESS, -ENDLESS}
        };
        for (double[] pair : due) {
            takes("floor", Exactdoubles::floor, pair[0], pair[1]);
        }
        takesNoCell("floor", Exactdoubles::floor);
    }

    void promise11() {
        double[][] due = {
            {0, 0}, {-0.0, -0.0}, {0.25, 1}, {-0.25, -0.0}, {1.5, 2}, {-1.5, -1}, {7, 7}, {-7, -7}, {LEAST, 1}, {-LEAST, -0.0},
            {NORMAL, 1}, {-NORMAL, -0.0}, {1 - 0x1p-53, 1}, {0x1p53 - 1, 0x1p53 - 1}, {0x1p52 - 0.5, 0x1p52},
            {0.5 - 0x1p52, 1 - 0x1p52}, {-MOST, -MOST}, {ENDLESS, ENDLESS}, {-ENDLESS, -ENDLESS}
        };
        for (double[] pair : due) {
            takes("ceil", Exactdoubles::ceil, pair[0], pair[1]);
        }
        takesNoCell("ceil", Exactdoubles::ceil);
    }

    void promise12() {
        double[][] due = {
            {0, 0}, {-0.0, -0.0}, {0.25, 0}, {-0.25, -0.0}, {0.5, 0}, {-0.5, -0.0}, {0.5 + 0x1p-53, 1}, {0.5 - 0x1p-54, 0},
            {0.75, 1}, {-0.75, -1}, {1.25, 1}, {1.5, 2}, {-1.5, -2}, {2.5, 2}, {-2.5, -2}, {3.5, 4}, {LEAST, 0}, {-LEAST, -0.0},
            {0x1p52 - 0.5, 0x1p52}, {0x1p52 - 1.5, 0x1p52 - 2}, {0x1p52 + 1, 0x1p52 + 1}, {MOST, MOST}, {-ENDLESS, -ENDLESS}
        };
        for (double[] pair : due) {
            takes("rint", Exactdoubles::rint, pair[0], pair[1]);
        }
        takesNoCell("rint", Exactdoubles::rint);
    }

    void promise13() {
        for (double number : new double[] {0, 1.5, LEAST, MOST, ENDLESS}) {
            takes("size", Exactdoubles::size, number, number);
            takes("size", Exactdoubles::size, -number, number);
        }
        takesNoCell("size", Exactdoubles::size);
    }

    void promise14() {
        for (double number : new double[] {0, 1.5, LEAST, MOST, ENDLESS}) {
            takes("turn", Exactdoubles::turn, number, -number);
            takes("turn", Exactdoubles::turn, -number, number);
        }
        takesNoCell("turn", Exactdoubles::turn);
    }

    void promise15() {
        takes("sign", Exactdoubles::sign, 0.0, 0.0);
        takes("sign", Exactdoubles::sign, -0.0, -0.0);
        for (double number : new double[] {1.5, 0.25, LEAST, MOST, ENDLESS}) {
            takes("sign", Exactdoubles::sign, number, 1);
            takes("sign", Exactdoubles::sign, -number, -1);
        }
        takesNoCell("sign", Exactdoubles::sign);
    }

    void promise16() {
        double[][] due = {
            {0, LEAST}, {-0.0, LEAST}, {-LEAST, -0.0}, {LEAST, 2 * LEAST}, {NORMAL - LEAST, NORMAL}, {-NORMAL, LEAST - NORMAL},
            {1, 1 + 0x1p-52}, {-1, 0x1p-53 - 1}, {MOST, ENDLESS}, {ENDLESS, ENDLESS}, {-ENDLESS, -MOST}
        };
        for (double[] pair : due) {
            takes("up", Exactdoubles::up, pair[0], pair[1]);
        }
        takesNoCell("up", Exactdoubles::up);
    }

    void promise17() {
        double[][] due = {
            {0, -LEAST}, {-0.0, -LEAST}, {LEAST, 0}, {-LEAST, -2 * LEAST}, {NORMAL, NORMAL - LEAST}, {1, 1 - 0x1p-53},
            {-1, -1 - 0x1p-52}, {-MOST, -ENDLESS}, {-ENDLESS, -ENDLESS}, {ENDLESS, MOST}
        };
        for (double[] pair : due) {
            takes("down", Exactdoubles::down, pair[0], pair[1]);
        }
        takesNoCell("down", Exactdoubles::down);
    }

    void promise18() {
        double[][] due = {
            {0, LEAST}, {LEAST, LEAST}, {NORMAL - LEAST, LEAST}, {NORMAL, LEAST}, {2 * NORMAL, 2 * LEAST}, {1, 0x1p-52},
            {1 - 0x1p-53, 0x1p-53}, {0x1p52, 1}, {0x1p-970, NORMAL}, {0x1p-971, NORMAL / 2}, {MOST, 0x1p971}, {ENDLESS, ENDLESS}
        };
        for (double[] pair : due) {
            takes("step", Exactdoubles::step, pair[0], pair[1]);
            takes("step", Exactdoubles::step, -pair[0], pair[1]);
        }
        takesNoCell("step", Exactdoubles::step);
    }

    void promise19() {
        double[][] due = {
            {0, 0}, {1, 1}, {1.5, 1.5}, {12, 1.5}, {0.375, 1.5}, {NORMAL, 1}, {MOST, 2 - 0x1p-52}, {LEAST, 0x1p-51},
            {NORMAL - LEAST, 2 - 0x1p-51}, {0x1p1023, 1}, {ENDLESS, ENDLESS}
        };
        for (double[] pair : due) {
            takes("unit", Exactdoubles::unit, pair[0], pair[1]);
            takes("unit", Exactdoubles::unit, -pair[0], -pair[1]);
        }
        takesNoCell("unit", Exactdoubles::unit);
    }

    /** SIZE, k, and the SIZE that TIMES 2^k has. */
    private static final double[][] TIMES = {
        {0, 5, 0}, {0, Integer.MAX_VALUE, 0}, {ENDLESS, Integer.MIN_VALUE, ENDLESS}, {1.5, 0, 1.5}, {1.5, 3, 12}, {1.5, -3, 0.1875},
        {1, 1023, 0x1p1023}, {1, 1024, ENDLESS}, {MOST, 1, ENDLESS}, {LEAST, 2097, 0x1p1023}, {LEAST, 2098, ENDLESS},
        {LEAST, -1, 0}, {3 * LEAST, -1, 2 * LEAST}, {3 * LEAST, -2, LEAST}, {5 * LEAST, -1, 2 * LEAST}, {2 * LEAST, -2, 0},
        {7 * LEAST, -2, 2 * LEAST}, {NORMAL, -52, LEAST}, {NORMAL, -53, 0}, {1.5 * NORMAL, -53, LEAST},
        {NORMAL + LEAST, -53, LEAST}, {2 * NORMAL - 2 * LEAST, -1, NORMAL - LEAST}, {2 * NORMAL - LEAST, -1, NORMAL},
        {MOST, -2098, LEAST}, {MOST, -2099, 0}, {0x1p1023, -2097, LEAST}, {0x1p1023, -2098, 0},
        {1, Integer.MAX_VALUE, ENDLESS}, {1, Integer.MIN_VALUE, 0}, {MOST, Integer.MIN_VALUE, 0}, {LEAST, Integer.MAX_VALUE, ENDLESS},
        {1, 2200, ENDLESS}, {MOST, -2200, 0}
    };

    void promise20() {
        for (double[] row : TIMES) {
            int k = (int) row[1];
            takes("times 2^" + k, (x, from, into) -> x.times(from, k, into), row[0], row[2]);
            takes("times 2^" + k, (x, from, into) -> x.times(from, k, into), -row[0], -row[2]);
        }
        takesNoCell("times", (x, from, into) -> x.times(from, 3, into));
    }

    void promise21() {
        double[] numbers = {0, 1.5, LEAST, ENDLESS};
        for (double size : numbers) {
            for (double side : numbers) {
                Exactdoubles board = board(-size, side, 9);
                check.same("side tells the kind", board.side(0, 1, 2), board.kind(0));
                has("side of " + side, board, 2, size);
                board.turn(1, 1);
                board.side(0, 1, 0);
                has("side of " + -side, board, 0, -size);
                board.side(2, 1, 1);
                has("side into the cell of the side", board, 1, -size);
                check.same("side counts", board.house(0), 7);
            }
        }
        takesNoCell("side", (x, from, into) -> x.side(from, 1, into));
        noCell("side, the side", (x, cell) -> x.side(0, cell, 1));
    }

    /** In the order of the document. */
    private static final double[] RISING = {-ENDLESS, -MOST, -7, -1.5, -LEAST, -0.0, 0, LEAST, NORMAL, 0.25, 1.5, 7, MOST, ENDLESS};

    private void lastOrFirst(String what, boolean isLast) {
        for (int one = 0; one < RISING.length; one++) {
            for (int other = 0; other < RISING.length; other++) {
                Exactdoubles board = board(RISING[one], RISING[other], 9);
                int at = isLast ? Math.max(one, other) : Math.min(one, other);
                int kind = isLast ? board.max(0, 1, 2) : board.min(0, 1, 2);
                has(what, board, 2, RISING[at]);
                check.same(what + " tells the kind", kind, board.kind(2));
                has(what + " leaves the first", board, 0, RISING[one]);
                has(what + " leaves the second", board, 1, RISING[other]);
                int ignored = isLast ? board.max(0, 1, 1) : board.min(0, 1, 1);
                has(what + " into one of both", board, 1, RISING[at]);
                check.same(what + " counts", board.house(0), 5);
            }
        }
    }

    void promise22() {
        lastOrFirst("max", true);
        takesNoCell("max", (x, from, into) -> x.max(from, 1, into));
        noCell("max, the other one", (x, cell) -> x.max(0, cell, 1));
    }

    void promise23() {
        lastOrFirst("min", false);
        takesNoCell("min", (x, from, into) -> x.min(from, 1, into));
        noCell("min, the other one", (x, cell) -> x.min(0, cell, 1));
    }

    void promise24() {
        double[][] due = {
            {0, 0, 0}, {-0.0, 0, -0.0}, {1.5, 0, 1.5}, {1, 40, 1 + 40 * 0x1p-52}, {1, -40, 1 - 40 * 0x1p-53}, {0, 1, LEAST},
            {-LEAST, 1, -0.0}, {LEAST, -1, 0}, {-20 * LEAST, 40, 20 * LEAST}, {20 * LEAST, -40, -20 * LEAST}, {MOST, 40, ENDLESS},
            {ENDLESS, -1, MOST}, {-MOST, -1, -ENDLESS}, {-ENDLESS, -40, -ENDLESS}, {ENDLESS, 40, ENDLESS}
        };
        for (double[] row : due) {
            Exactdoubles board = board(9, row[0]);
            int kind = board.walk(1, (int) row[1]);
            has("walk " + row[1] + " from " + row[0], board, 1, row[2]);
            check.same("walk tells the kind", kind, board.kind(1));
            check.same("walk counts once", board.house(0), 3);
        }
        noCell("walk", (x, cell) -> x.walk(cell, 3));
        noCell("walk, both wrong", (x, cell) -> x.walk(cell, 41));
        for (int many : new int[] {41, -41, Integer.MAX_VALUE, Integer.MIN_VALUE}) {
            illegal("walk " + many, x -> x.walk(0, many));
        }
    }

    void promise25() {
        double[][] due = {
            {0, 0}, {-0.0, 0}, {LEAST, 1}, {LEAST - NORMAL, 1}, {NORMAL, 2}, {-0.25, 2}, {1.5, 2}, {1 - 0x1p-53, 2}, {1, 3},
            {-7, 3}, {0x1p52 - 0.5, 2}, {0x1p52 - 1, 3}, {0x1p53 - 1, 3}, {MOST, 3}, {ENDLESS, 4}, {-ENDLESS, 4}
        };
        for (double[] pair : due) {
            tells("kind", Exactdoubles::kind, pair[0], (int) pair[1]);
        }
        noCell("kind", Exactdoubles::kind);
    }

    void promise26() {
        int[][] due = {
            {0, 0x3ff, 0, 0}, {1, 0x3ff, 0x80000, 0}, {0, 0, 0, 1}, {0, 0, 0xfffff, -1}, {1, 2046, 0xfffff, -1}, {0, 2047, 0, 0},
            {1, 0, 0, 0}, {0, 1, 0, Integer.MIN_VALUE}, {1, 1029, 0x12345, 0x7fffffff}
        };
        for (int[] row : due) {
            Exactdoubles board = new Exactdoubles();
            board.bits(3, row[0] << 31 | row[1] << 20 | row[2], row[3]);
            for (int what = 0; what < 4; what++) {
                check.same("digits " + what, board.digits(3, what), row[what]);
            }
        }
        noCell("digits", (x, cell) -> x.digits(cell, 0));
        noCell("digits, both wrong", (x, cell) -> x.digits(cell, 4));
        for (int what : new int[] {-1, 4, Integer.MAX_VALUE, Integer.MIN_VALUE}) {
            illegal("digits " + what, x -> x.digits(0, what));
        }
    }

    void promise27() {
        tells("text", Exactdoubles::text, 0, "0");
        tells("text", Exactdoubles::text, -0.0, "-0");
        tells("text", Exactdoubles::text, ENDLESS, "E");
        tells("text", Exactdoubles::text, -ENDLESS, "-E");
        tells("text", Exactdoubles::text, 1, "1*2^0");
        tells("text", Exactdoubles::text, -12, "-3*2^2");
        tells("text", Exactdoubles::text, 100, "25*2^2");
        tells("text", Exactdoubles::text, 0.375, "3*2^-3");
        tells("text", Exactdoubles::text, LEAST, "1*2^-1074");
        tells("text", Exactdoubles::text, -6 * LEAST, "-3*2^-1073");
        tells("text", Exactdoubles::text, MOST, "9007199254740991*2^971");
        tells("text", Exactdoubles::text, 0x1p1023, "1*2^1023");
        tells("text", Exactdoubles::text, 1000001, "1000001*2^0");
        noCell("text", Exactdoubles::text);
    }

    void promise28() {
        double[][] due = {
            {0, -1023}, {-0.0, -1023}, {LEAST, -1023}, {NORMAL, -1022}, {1, 0}, {-1.5, 0}, {2, 1}, {0.75, -1}, {MOST, 1023},
            {ENDLESS, 1024}, {-ENDLESS, 1024}
        };
        for (double[] pair : due) {
            tells("exponent", Exactdoubles::exponent, pair[0], (int) pair[1]);
        }
        noCell("exponent", Exactdoubles::exponent);
    }

    private static final Object[][] ROUNDS = {
        {0.0, 0L}, {-0.0, 0L}, {0.25, 0L}, {-0.25, 0L}, {0.5, 1L}, {-0.5, 0L}, {0.5 - 0x1p-54, 0L}, {-0.75, -1L}, {1.5, 2L},
        {-1.5, -1L}, {2.5, 3L}, {-2.5, -2L}, {-2.75, -3L}, {LEAST, 0L}, {-NORMAL, 0L}, {1 - 0x1p-53, 1L}, {0x1p31 - 0.5, 1L << 31},
        {0.5 - 0x1p31, 1 - (1L << 31)}, {0x1p32, 1L << 32}, {-1.0, -1L}, {0x1p52 - 0.5, 1L << 52}, {0.5 - 0x1p52, 1 - (1L << 52)},
        {0x1p52 + 1, (1L << 52) + 1}, {0x1p53 - 1, (1L << 53) - 1}, {0x1p63 - 0x1p10, Long.MAX_VALUE - 1023},
        {0x1p63, Long.MAX_VALUE}, {-0x1p63, Long.MIN_VALUE}, {-0x1p63 - 0x1p11, Long.MIN_VALUE}, {0x1p64, Long.MAX_VALUE},
        {MOST, Long.MAX_VALUE}, {-MOST, Long.MIN_VALUE}, {ENDLESS, Long.MAX_VALUE}, {-ENDLESS, Long.MIN_VALUE}
    };

    void promise29() {
        for (Object[] pair : ROUNDS) {
            long round = (Long) pair[1];
            tells("round, upper", (x, cell) -> x.round(cell, true), (Double) pair[0], (int) (round >> 32));
            tells("round, lower", (x, cell) -> x.round(cell, false), (Double) pair[0], (int) round);
        }
        noCell("round", (x, cell) -> x.round(cell, true));
    }

    void promise30() {
        for (Object[] pair : ROUNDS) {
            tells("rounded", Exactdoubles::rounded, (Double) pair[0], pair[1].toString());
        }
        noCell("rounded", Exactdoubles::rounded);
    }

    void promise31() {
        Object[][] due = {
            {0.0, 0L}, {-0.0, 0L}, {0.75, 0L}, {-0.75, 0L}, {1.5, 1L}, {-1.5, -1L}, {-2.75, -2L}, {LEAST, 0L}, {-LEAST, 0L},
            {0x1p52 - 0.5, (1L << 52) - 1}, {0.5 - 0x1p52, 1 - (1L << 52)}, {0x1p52 + 1, (1L << 52) + 1},
            {0x1p63 - 0x1p10, Long.MAX_VALUE - 1023}, {0x1p63, Long.MAX_VALUE}, {-0x1p63, Long.MIN_VALUE}, {-0x1p64, Long.MIN_VALUE},
            {100.0, 100L}, {MOST, Long.MAX_VALUE}, {ENDLESS, Long.MAX_VALUE}, {-ENDLESS, Long.MIN_VALUE}
        };
        for (Object[] pair : due) {
            tells("cut", Exactdoubles::cut, (Double) pair[0], pair[1].toString());
        }
        noCell("cut", Exactdoubles::cut);
    }

    void promise32() {
        Object[][] due = {
            {0.0, 0}, {-0.0, 0}, {-0.75, 0}, {1.5, 1}, {-2.75, -2}, {0x1p31 - 0.5, Integer.MAX_VALUE}, {0x1p31, Integer.MAX_VALUE},
            {0x1p31 - 1.5, Integer.MAX_VALUE - 1}, {-0x1p31, Integer.MIN_VALUE}, {-0x1p31 - 0.5, Integer.MIN_VALUE},
            {-0x1p31 - 1, Integer.MIN_VALUE}, {1.5 - 0x1p31, Integer.MIN_VALUE + 2}, {0x1p32 + 5, Integer.MAX_VALUE},
            {MOST, Integer.MAX_VALUE}, {ENDLESS, Integer.MAX_VALUE}, {-ENDLESS, Integer.MIN_VALUE}
        };
        for (Object[] pair : due) {
            tells("shortened", Exactdoubles::shortened, (Double) pair[0], pair[1]);
        }
        noCell("shortened", Exactdoubles::shortened);
    }

    void promise33() {
        tells("signed", Exactdoubles::signed, 0, 0);
        tells("signed", Exactdoubles::signed, -0.0, 0);
        for (double number : new double[] {LEAST, 0.25, 7, MOST, ENDLESS}) {
            tells("signed", Exactdoubles::signed, number, 1);
            tells("signed", Exactdoubles::signed, -number, -1);
        }
        noCell("signed", Exactdoubles::signed);
    }

    void promise34() {
        for (double number : new double[] {0, 1, 7, 0x1p52 - 1, 0x1p53 - 1, MOST}) {
            tells("isWhole", Exactdoubles::isWhole, number, true);
            tells("isWhole", Exactdoubles::isWhole, -number, true);
        }
        for (double number : new double[] {LEAST, NORMAL - LEAST, NORMAL, 0.5, 1.5, 0x1p52 - 0.5, ENDLESS}) {
            tells("isWhole", Exactdoubles::isWhole, number, false);
            tells("isWhole", Exactdoubles::isWhole, -number, false);
        }
        noCell("isWhole", Exactdoubles::isWhole);
    }

    private void tellsAllTwo(String what, Comparing comparing, Comparing dueOf) {
        for (int one = 0; one < RISING.length; one++) {
            for (int other = 0; other < RISING.length; other++) {
                tellsTwo(what, comparing, RISING[one], RISING[other], dueOf.on(null, one, other));
            }
        }
        check.same(what + " with itself", comparing.on(board(1.5), 0, 0), dueOf.on(null, 3, 3));
        tellsNoTwo(what, comparing);
    }

    void promise35() {
        tellsAllTwo("compare", Exactdoubles::compare, (x, one, other) -> Integer.compare(one, other));
    }

    void promise36() {
        tellsAllTwo("areLike", Exactdoubles::areLike, (x, one, other) -> RISING[one] == RISING[other]);
    }

    void promise37() {
        tellsAllTwo("isBelow", Exactdoubles::isBelow, (x, one, other) -> RISING[one] < RISING[other]);
    }

    void promise38() {
        tellsAllTwo("areSame", Exactdoubles::areSame, (x, one, other) -> one == other);
    }

    void promise39() {
        double[][] next = {
            {0, LEAST}, {-0.0, LEAST}, {-LEAST, -0.0}, {1, 1 + 0x1p-52}, {MOST, ENDLESS}, {ENDLESS, ENDLESS}, {-ENDLESS, -MOST}
        };
        for (double[] pair : next) {
            tellsTwo("isNext", Exactdoubles::isNext, pair[0], pair[1], true);
        }
        double[][] others = {
            {-LEAST, 0}, {0, 0}, {-0.0, 0}, {1, 1}, {1, 1 + 0x1p-51}, {LEAST, 0}, {-ENDLESS, -ENDLESS}, {1 + 0x1p-52, 1}
        };
        for (double[] pair : others) {
            tellsTwo("isNext", Exactdoubles::isNext, pair[0], pair[1], false);
        }
        tellsNoTwo("isNext", Exactdoubles::isNext);
    }

    void promise40() {
        double[][] due = {
            {0, 0, 0}, {0, -0.0, 0}, {-0.0, 0, 0}, {1.5, 1.5, 0}, {ENDLESS, ENDLESS, 0}, {1, 1 + 40 * 0x1p-52, 40},
            {1, 1 + 41 * 0x1p-52, NONE}, {1 + 0x1p-52, 1, NONE}, {-LEAST, LEAST, 2}, {-LEAST, 0, 1}, {-LEAST, -0.0, 1},
            {-20 * LEAST, 20 * LEAST, 40}, {-20 * LEAST, 21 * LEAST, NONE}, {MOST, ENDLESS, 1}, {ENDLESS, MOST, NONE},
            {-ENDLESS, -MOST, 1}, {-ENDLESS, ENDLESS, NONE}, {ENDLESS, -ENDLESS, NONE}, {-ENDLESS, MOST, NONE}, {MOST, -MOST, NONE}
        };
        for (double[] row : due) {
            tellsTwo("apart", Exactdoubles::apart, row[0], row[1], (int) row[2]);
        }
        tellsNoTwo("apart", Exactdoubles::apart);
    }

    void promise41() {
        Exactdoubles board = board(0, -0.0, 1.5, ENDLESS, 1.5, -ENDLESS);
        int[] due = {2, 1, 3, 5, 3, 0};
        for (int cell = 0; cell < 6; cell++) {
            check.same("place of " + cell, board.place(cell), due[cell]);
            check.same("place among its likes", new Exactdoubles().place(cell), 0);
        }
        noCell("place", Exactdoubles::place);
    }

    void promise42() {
        tells("floorOf", Exactdoubles::floorOf, -0.0, "-0");
        tells("floorOf", Exactdoubles::floorOf, 2.5, "1*2^1");
        tells("floorOf", Exactdoubles::floorOf, -2.5, "-3*2^0");
        tells("floorOf", Exactdoubles::floorOf, -LEAST, "-1*2^0");
        tells("floorOf", Exactdoubles::floorOf, 0.75, "0");
        tells("floorOf", Exactdoubles::floorOf, -ENDLESS, "-E");
        noCell("floorOf", Exactdoubles::floorOf);
    }

    void promise43() {
        tells("ceilOf", Exactdoubles::ceilOf, 0, "0");
        tells("ceilOf", Exactdoubles::ceilOf, 2.5, "3*2^0");
        tells("ceilOf", Exactdoubles::ceilOf, -2.5, "-1*2^1");
        tells("ceilOf", Exactdoubles::ceilOf, -0.75, "-0");
        tells("ceilOf", Exactdoubles::ceilOf, LEAST, "1*2^0");
        tells("ceilOf", Exactdoubles::ceilOf, ENDLESS, "E");
        noCell("ceilOf", Exactdoubles::ceilOf);
    }

    void promise44() {
        tells("rintOf", Exactdoubles::rintOf, 0.5, "0");
        tells("rintOf", Exactdoubles::rintOf, -0.5, "-0");
        tells("rintOf", Exactdoubles::rintOf, 2.5, "1*2^1");
        tells("rintOf", Exactdoubles::rintOf, -3.5, "-1*2^2");
        tells("rintOf", Exactdoubles::rintOf, 2.75, "3*2^0");
        tells("rintOf", Exactdoubles::rintOf, -ENDLESS, "-E");
        noCell("rintOf", Exactdoubles::rintOf);
    }

    void promise45() {
        tells("stepOf", Exactdoubles::stepOf, -0.0, "1*2^-1074");
        tells("stepOf", Exactdoubles::stepOf, NORMAL, "1*2^-1074");
        tells("stepOf", Exactdoubles::stepOf, -1, "1*2^-52");
        tells("stepOf", Exactdoubles::stepOf, MOST, "1*2^971");
        tells("stepOf", Exactdoubles::stepOf, -ENDLESS, "E");
        noCell("stepOf", Exactdoubles::stepOf);
    }

    void promise46() {
        Telling up = (x, cell) -> x.nextOf(cell, false);
        Telling down = (x, cell) -> x.nextOf(cell, true);
        tells("nextOf up", up, -LEAST, "-0");
        tells("nextOf down", down, LEAST, "0");
        tells("nextOf up", up, 0, "1*2^-1074");
        tells("nextOf down", down, 0, "-1*2^-1074");
        tells("nextOf up", up, 1, "4503599627370497*2^-52");
        tells("nextOf down", down, 1, "9007199254740991*2^-53");
        tells("nextOf up", up, ENDLESS, "E");
        tells("nextOf down", down, ENDLESS, "9007199254740991*2^971");
        tells("nextOf down", down, -ENDLESS, "-E");
        noCell("nextOf", (x, cell) -> x.nextOf(cell, true));
    }

    void promise47() {
        for (double[] row : TIMES) {
            int k = (int) row[1];
            tells("timesOf 2^" + k, (x, cell) -> x.timesOf(cell, k), row[0], Model.textOf(row[2]));
            tells("timesOf 2^" + k, (x, cell) -> x.timesOf(cell, k), -row[0], Model.textOf(-row[2]));
        }
        noCell("timesOf", (x, cell) -> x.timesOf(cell, 3));
    }

    void promise48() {
        Object[][] due = {
            {0.0, 2200, true}, {-0.0, -2200, true}, {ENDLESS, -2200, true}, {1.5, 1000, true}, {1.5, 0, true}, {1.0, 1024, false},
            {1.0, -1074, true}, {1.0, -1075, false}, {1.5, -1073, true}, {1.5, -1074, false}, {LEAST, 2097, true},
            {LEAST, 2098, false}, {LEAST, -1, false}, {-2 * LEAST, -1, true}, {MOST, 1, false}, {MOST, -2045, true},
            {MOST, -2046, false}, {-1.0, 2200, false}
        };
        for (Object[] row : due) {
            int k = (Integer) row[1];
            tells("isBack 2^" + k, (x, cell) -> x.isBack(cell, k), (Double) row[0], row[2]);
        }
        noCell("isBack", (x, cell) -> x.isBack(cell, 3));
        noCell("isBack, both wrong", (x, cell) -> x.isBack(cell, 2201));
        for (int k : new int[] {2201, -2201, Integer.MAX_VALUE, Integer.MIN_VALUE}) {
            illegal("isBack " + k, x -> x.isBack(0, k));
        }
    }

    void promise49() {
        check.same("greatest of nothing", new Exactdoubles().greatest(), "0");
        check.same("greatest", board(-0.0, -1, -0.0, 0, -ENDLESS, -LEAST).greatest(), "0");
        check.same("greatest", board(-0.0, -1, -0.0, -2, -0.0, -LEAST).greatest(), "-0");
        check.same("greatest, the last cell", board(-3, -1, -4, -2, -7, -0.5).greatest(), "-1*2^-1");
        check.same("greatest, the first cell", board(ENDLESS, 1, MOST).greatest(), "E");
        for (int cell = 0; cell < 6; cell++) {
            Exactdoubles board = board(-2, -2, -2, -2, -2, -2);
            put(board, cell, -0.5);
            check.same("greatest in cell " + cell, board.greatest(), "-1*2^-1");
        }
    }

    void promise50() {
        check.same("least of nothing", new Exactdoubles().least(), "0");
        check.same("least", board(0, 1, 0, -0.0, ENDLESS, LEAST).least(), "-0");
        check.same("least, the last cell", board(3, 1, 4, 2, 7, 0.5).least(), "1*2^-1");
        check.same("least, the first cell", board(-ENDLESS, 1, -MOST).least(), "-E");
        for (int cell = 0; cell < 6; cell++) {
            Exactdoubles board = new Exactdoubles();
            put(board, cell, -0.0);
            check.same("least in cell " + cell, board.least(), "-0");
        }
    }

    void promise51() {
        Exactdoubles board = new Exactdoubles();
        for (int times = 1; times <= 5; times++) {
            check.same("knock", board.knock(), times);
        }
        check.same("another board's knock", new Exactdoubles().knock(), 1);
    }

    void promise52() {
        Exactdoubles board = board(1.5, LEAST, ENDLESS, -0.0, 7);
        check.same("given", board.house(0), 5);
        board.walk(0, 0);
        board.copy(1, 1);
        check.same("given again what it has", board.house(0), 7);
        board.swap(2, 3);
        check.same("given by swap", board.house(0), 9);
        board.bits(0, -1, -1);
        check.same("not given", board.house(0), 9);
        check.same("refused", board.house(1), 1);
        check.same("knocks ahead", board.house(2), 0);
        board.knock();
        check.same("knocks", board.house(2), 1);
        check.same("whole ones", board.house(3), 3);
        for (int what : new int[] {-1, 4, Integer.MAX_VALUE, Integer.MIN_VALUE}) {
            illegal("house " + what, x -> x.house(what));
        }
    }

    void promise53() {
        check.isTrue("a new board is sound", new Exactdoubles().isSound());
        for (int first = 0; first + 6 <= RISING.length; first++) {
            double[] six = new double[6];
            System.arraycopy(RISING, first, six, 0, 6);
            check.isTrue("a rising board is sound", board(six).isSound());
        }
        for (double number : new double[] {0.5, 1.5, 2.5, 0.5 - 0x1p-54, 0.5 + 0x1p-53, 0x1p52 - 0.5, 0x1p1019, MOST, LEAST}) {
            Exactdoubles board = board(number, -number, Math.nextUp(number), Math.nextDown(-number), number / 2, 0);
            long before = board.digest();
            check.isTrue("a board round " + number + " is sound", board.isSound());
            check.same("isSound changes nothing", board.digest(), before);
        }
    }

    void promise54() {
        check.same("digest of a new board", new Exactdoubles().digest(), digestOf(new Exactdoubles()));
        Exactdoubles board = board(1.5, -0.0, LEAST, -MOST, ENDLESS, 0.5 - 0x1p52);
        board.knock();
        board.bits(0, -1, -1);
        long due = digestOf(board);
        check.same("digest", board.digest(), due);
        check.same("digest again", board.digest(), due);
        Exactdoubles other = board(1.5, 0.0, LEAST, -MOST, ENDLESS, 0.5 - 0x1p52);
        check.same("digest of another board", other.digest() == due, false);
    }

    private static long digestOf(Exactdoubles x) {
        long d = 7794;
        for (int what = 0; what < 4; what++) {
            d = d * 31 + x.house(what);
        }
        for (int c = 0; c < 6; c++) {
            for (int what = 0; what < 4; what++) {
                d = d * 31 + x.digits(c, what);
            }
            d = d * 31 + x.kind(c);
            d = d * 31 + x.text(c).length();
            d = d * 31 + x.exponent(c);
            d = d * 31 + x.round(c, true);
            d = d * 31 + x.round(c, false);
            d = d * 31 + x.rounded(c).length();
            d = d * 31 + x.cut(c).length();
            d = d * 31 + x.shortened(c);
            d = d * 31 + x.signed(c);
            d = d * 31 + x.place(c);
            d = d * 31 + x.floorOf(c).length();
            d = d * 31 + x.ceilOf(c).length();
            d = d * 31 + x.rintOf(c).length();
            d = d * 31 + x.stepOf(c).length();
            d = d * 31 + x.nextOf(c, false).length();
            d = d * 31 + x.nextOf(c, true).length();
        }
        for (int one = 0; one < 6; one++) {
            for (int other = 0; other < 6; other++) {
                d = d * 31 + x.compare(one, other);
                d = d * 31 + x.apart(one, other);
            }
        }
        d = d * 31 + x.greatest().length();
        d = d * 31 + x.least().length();
        return d * 31 + (x.isSound() ? 1 : 0);
    }
}
