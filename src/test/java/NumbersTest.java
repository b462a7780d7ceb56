/** Section 1, sentence by sentence: the first and the last NUMBER of each KIND, what lies beside them, and their ORDER. */
public final class NumbersTest {
    private static final double LEAST = Boards.LEAST;
    private static final double NORMAL = Boards.NORMAL;
    private static final double MOST = Boards.MOST;
    private static final double ENDLESS = Boards.ENDLESS;
    private static final int REFUSED = -9;
    private static final int NONE = -1;

    private static final Edge[] EDGES = Edge.all();

    private final Check check = new Check("NumbersTest");

    public static void main(String[] args) throws Exception {
        NumbersTest tests = new NumbersTest();
        tests.check.runTests(tests);
        tests.check.finish();
    }

    private void kinds(int due, double... sizes) {
        for (double size : sizes) {
            for (double number : new double[] {size, -size}) {
                Exactdoubles board = Boards.with(number);
                check.same("the kind of " + number, board.kind(0), due);
                check.same("whether " + number + " is whole", board.isWhole(0), due == 0 || due == 3);
                check.same("the whole ones with " + number, board.house(3), due == 0 || due == 3 ? 6 : 5);
            }
        }
    }

    /** A board is made by what is not bits() where it can be, so that what bits() takes is not only told by itself. */
    private void hasDigits(String what, Exactdoubles board, int side, int high, long low) {
        check.same("the SIDE of " + what, board.digits(0, 0), side);
        check.same("the HIGH of " + what, board.digits(0, 1), high);
        check.same("LOW / 2^32 of " + what, board.digits(0, 2), (int) (low >> 32));
        check.same("LOW modulo 2^32 of " + what, board.digits(0, 3), (int) low);
    }

    private static Exactdoubles sampled(int which, boolean isDown) {
        Exactdoubles board = new Exactdoubles();
        board.sample(0, which, isDown);
        return board;
    }

    private static Exactdoubles powered(int k, boolean isDown) {
        Exactdoubles board = new Exactdoubles();
        board.power(0, k, isDown);
        return board;
    }

    // ---- a SIZE is m * 2^e

    void leastSizeIsOneTimesTheLeastPower() {
        Exactdoubles board = powered(-1074, false);
        check.same("the least size", board.text(0), "1*2^-1074");
        check.same("below the least size is nothing", board.nextOf(0, true), "0");
        check.same("half of the least size is nothing", board.timesOf(0, -1), "0");
    }

    void greatestSizeIsTheGreatestFactorTimesTheGreatestPower() {
        Exactdoubles board = sampled(3, false);
        check.same("the greatest size", board.text(0), "9007199254740991*2^971");
        check.same("above the greatest size is no end", board.nextOf(0, false), "E");
        check.same("twice the greatest size has no end", board.timesOf(0, 1), "E");
    }

    void thereAreTwoOfTheValueNothing() {
        Exactdoubles board = new Exactdoubles();
        check.same("nothing, down", board.zero(1, true), 0);
        check.isTrue("both have the same value", board.areLike(0, 1) && board.areLike(1, 0));
        check.same("both have the same digits", board.areSame(0, 1), false);
        check.same("the first is below", board.isBelow(0, 1), false);
        check.same("the second is below", board.isBelow(1, 0), false);
        check.same("the text of one", board.text(0), "0");
        check.same("the text of the other", board.text(1), "-0");
    }

    void endlessIsAboveOrBelowAllOthers() {
        Exactdoubles board = new Exactdoubles();
        board.endless(0, false);
        board.endless(1, true);
        for (Edge edge : EDGES) {
            Boards.put(board, 2, edge.number);
            Boards.put(board, 3, -edge.number);
            boolean isOther = edge.kind != 4;
            check.same(edge + " is below no end", board.isBelow(2, 0), isOther);
            check.same(edge + " turned round is above no end, down", board.isBelow(1, 3), isOther);
        }
        check.same("the one is the other", board.areLike(0, 1), false);
        check.isTrue("down is below up", board.isBelow(1, 0));
    }

    // ---- DIGITS

    void digitsOfNothing() {
        hasDigits("0", powered(-1075, false), 0, 0, 0);
        hasDigits("-0", powered(-1075, true), 1, 0, 0);
    }

    void digitsBelowTheFirstOfKindTwo() {
        hasDigits("the first of kind 1", sampled(0, false), 0, 0, 1);
        hasDigits("the first of kind 1, down", sampled(0, true), 1, 0, 1);
        hasDigits("the last of kind 1", sampled(1, false), 0, 0, (1L << 52) - 1);
        hasDigits("the last of kind 1, down", sampled(1, true), 1, 0, (1L << 52) - 1);
        hasDigits("2^-1023", powered(-1023, false), 0, 0, 1L << 51);
        hasDigits("2^-1042", powered(-1042, false), 0, 0, 1L << 32);
        hasDigits("2^-1043", powered(-1043, true), 1, 0, 1L << 31);
    }

    void digitsOfTheOthers() {
        hasDigits("the first of a HIGH of 1", sampled(2, false), 0, 1, 0);
        hasDigits("the first of a HIGH of 1, down", powered(-1022, true), 1, 1, 0);
        hasDigits("2^-1021", powered(-1021, false), 0, 2, 0);
        hasDigits("1", powered(0, true), 1, 1023, 0);
        hasDigits("1 - 2^-53", sampled(4, false), 0, 1022, (1L << 52) - 1);
        hasDigits("2^52 + 1", sampled(11, true), 1, 1075, 1);
        hasDigits("2^1023", powered(1023, false), 0, 2046, 0);
        hasDigits("the greatest size", sampled(3, false), 0, 2046, (1L << 52) - 1);
        hasDigits("the greatest size, down", sampled(3, true), 1, 2046, (1L << 52) - 1);
    }

    void digitsOfNoEnd() {
        hasDigits("no end", powered(1024, false), 0, 2047, 0);
        hasDigits("no end, down", powered(1024, true), 1, 2047, 0);
    }

    void digitsOfEachEdge() {
        for (Edge edge : EDGES) {
            hasDigits(edge.text, Boards.with(edge.number), 0, edge.high, edge.low);
            hasDigits("-" + edge, Boards.with(-edge.number), 1, edge.high, edge.low);
        }
    }

    void eachHasDigitsOfItsOwn() {
        for (Edge one : EDGES) {
            for (Edge other : EDGES) {
                Exactdoubles board = Boards.with(one.number, other.number, -one.number);
                check.same(one + " and " + other, board.areSame(0, 1), one == other);
                check.same("-" + one + " and " + other, board.areSame(2, 1), false);
            }
        }
    }

    void theGreatestHighHasNoOtherLow() {
        Exactdoubles board = new Exactdoubles();
        check.same("a HIGH of 2046 with the greatest LOW", board.bits(0, 0x7fefffff, -1), 3);
        check.same("a HIGH of 2047 with the LOW 0", board.bits(0, 0x7ff00000, 0), 4);
        check.same("a HIGH of 2047 with the LOW 1", board.bits(0, 0x7ff00000, 1), REFUSED);
        check.same("a HIGH of 2047 with the greatest LOW", board.bits(0, 0x7fffffff, -1), REFUSED);
    }

    // ---- RUNG

    private void isOneRung(double lower, double upper) {
        Exactdoubles board = Boards.with(lower, upper, -lower, -upper);
        check.same("from " + lower + " to " + upper, board.apart(0, 1), 1);
        check.same("back from " + upper, board.apart(1, 0), NONE);
        check.same("from " + -upper + " to " + -lower, board.apart(3, 2), 1);
    }

    void bothOfTheValueNothingHaveTheRungNothing() {
        Exactdoubles board = Boards.with(0.0, -0.0, LEAST, -LEAST);
        check.same("from -0 to 0", board.apart(1, 0), 0);
        check.same("from 0 to -0", board.apart(0, 1), 0);
        for (int nothing = 0; nothing < 2; nothing++) {
            check.same("up from nothing", board.apart(nothing, 2), 1);
            check.same("up to nothing", board.apart(3, nothing), 1);
        }
        check.same("over nothing", board.apart(3, 2), 2);
    }

    void rungsRiseByOneOverEachBound() {
        isOneRung(0, LEAST);
        isOneRung(NORMAL - LEAST, NORMAL);
        isOneRung(2 * NORMAL - LEAST, 2 * NORMAL);
        isOneRung(1 - 0x1p-53, 1);
        isOneRung(2 - 0x1p-52, 2);
        isOneRung(0x1p52 - 0.5, 0x1p52);
        isOneRung(0x1p53 - 1, 0x1p53);
        isOneRung(0x1p63 - 0x1p10, 0x1p63);
        isOneRung(MOST, ENDLESS);
    }

    // ---- ORDER

    private void comes(double first, double second) {
        Exactdoubles board = Boards.with(first, second);
        check.same(first + " against " + second, board.compare(0, 1), -1);
        check.same(second + " against " + first, board.compare(1, 0), 1);
        check.same(first + " below " + second, board.isBelow(0, 1), first != second);
        check.same(second + " below " + first, board.isBelow(1, 0), false);
    }

    void orderIsByValues() {
        for (int at = 1; at < EDGES.length; at++) {
            for (int before = 0; before < at; before++) {
                comes(EDGES[before].number, EDGES[at].number);
                comes(-EDGES[at].number, -EDGES[before].number);
                comes(-EDGES[before].number, EDGES[at].number);
                comes(-EDGES[at].number, EDGES[before].number);
            }
        }
    }

    void ofTheValueNothingThatWithTheSideOneComesFirst() {
        comes(-0.0, 0.0);
    }

    void eachIsTheSameAsItself() {
        for (Edge edge : EDGES) {
            Exactdoubles board = Boards.with(edge.number, edge.number, -edge.number, -edge.number);
            check.same(edge + " against itself", board.compare(0, 1), 0);
            check.same("-" + edge + " against itself", board.compare(2, 3), 0);
        }
    }

    // ---- KIND

    void kindNothing() {
        kinds(0, 0.0);
    }

    void firstAndLastOfKindOne() {
        kinds(1, LEAST, 2 * LEAST, NORMAL / 2, NORMAL - 2 * LEAST, NORMAL - LEAST);
    }

    void firstAndLastOfKindTwo() {
        kinds(2, NORMAL, NORMAL + LEAST, 0.5, 1 - 0x1p-53, 1 + 0x1p-52, 0x1p31 - 0.5, 0x1p51 + 0.5, 0x1p52 - 1.5, 0x1p52 - 0.5);
    }

    void firstAndLastOfKindThree() {
        kinds(3, 1, 2, 0x1p31, 0x1p51, 0x1p52 - 2, 0x1p52 - 1, 0x1p52, 0x1p52 + 1, 0x1p53 - 1, 0x1p53, MOST - 0x1p971, MOST);
    }

    void kindFour() {
        kinds(4, ENDLESS);
    }

    void kindOfEachEdge() {
        for (Edge edge : EDGES) {
            kinds(edge.kind, edge.number);
        }
    }

    // ---- CELLS

    void allSixCellsAreNothingAtFirst() {
        Exactdoubles board = new Exactdoubles();
        for (int cell = 0; cell < 6; cell++) {
            check.same("the text of cell " + cell, board.text(cell), "0");
            check.same("the side of cell " + cell, board.digits(cell, 0), 0);
        }
    }

    void eachCellHasANumberOfItsOwn() {
        Exactdoubles board = new Exactdoubles();
        for (int cell = 0; cell < 6; cell++) {
            board.quarters(cell, 4 * cell + 2);
        }
        for (int cell = 0; cell < 6; cell++) {
            check.same("cell " + cell, Boards.number(board, cell), cell + 0.5);
        }
    }
}
