/** NEAREST and TIMES 2^k (promises 5, 19, 20, 47, 48): the middle between two NUMBERS, and the greatest and least k. */
public final class NearestTest {
    private static final double LEAST = Boards.LEAST;
    private static final double NORMAL = Boards.NORMAL;
    private static final double MOST = Boards.MOST;
    private static final double ENDLESS = Boards.ENDLESS;
    private static final int MOST_INT = Integer.MAX_VALUE;
    private static final int LEAST_INT = Integer.MIN_VALUE;

    private static final Edge[] EDGES = Edge.all();

    private final Check check = new Check("NearestTest");

    public static void main(String[] args) throws Exception {
        NearestTest tests = new NearestTest();
        tests.check.runTests(tests);
        tests.check.finish();
    }

    /** TIMES 2^k of both SIDES, by times() into another cell and its own, and by timesOf(). */
    private void times(double size, int k, double due) {
        for (int side = 0; side < 2; side++) {
            double from = side == 0 ? size : -size;
            double want = side == 0 ? due : -due;
            String what = from + " times 2^" + k;
            Exactdoubles board = Boards.with(from, 7, 7, 7, 7, from);
            check.same(what + " as a text", board.timesOf(0, k), Model.textOf(want));
            check.same(what + " as a text, nothing given", board.house(0), 6);
            int kind = board.times(0, k, 1);
            check.same(what, Boards.number(board, 1), want);
            check.same("the kind of " + what, kind, board.kind(1));
            check.same(what + " leaves it", Boards.number(board, 0), from);
            board.times(5, k, 5);
            check.same(what + " in its own cell", Boards.number(board, 5), want);
        }
    }

    private void back(double size, int k, boolean due) {
        for (double number : new double[] {size, -size}) {
            Exactdoubles board = Boards.with(1, number);
            check.same(number + " times 2^" + k + " and back", board.isBack(1, k), due);
            check.same(number + " stays as it is", Boards.number(board, 1), number);
            check.same("nothing is given", board.house(0), 2);
        }
    }

    private void power(int k, double due, int kind) {
        Exactdoubles board = Boards.with(3, 3);
        check.same("the kind of 2^" + k, board.power(0, k, false), kind);
        check.same("2^" + k, Boards.number(board, 0), due);
        check.same("the kind of -2^" + k, board.power(1, k, true), kind);
        check.same("-2^" + k, Boards.number(board, 1), -due);
    }

    // ---- sizes that lie in the middle between two NUMBERS

    void inTheMiddleThatWithAnEvenLow() {
        times(LEAST, -1, 0);
        times(3 * LEAST, -1, 2 * LEAST);
        times(5 * LEAST, -1, 2 * LEAST);
        times(7 * LEAST, -1, 4 * LEAST);
        times(9 * LEAST, -1, 4 * LEAST);
        times(1, -1075, 0);
        times(1.5, -1074, 2 * LEAST);
        times(2.5, -1074, 2 * LEAST);
        times(3.5, -1074, 4 * LEAST);
        times(0x1p1023, -2098, 0);
    }

    void inTheMiddleBelowTheLastOfKindOne() {
        times(2 * NORMAL - 3 * LEAST, -1, NORMAL - 2 * LEAST);
        times(2 - 0x3p-52, -1023, NORMAL - 2 * LEAST);
    }

    void inTheMiddleBetweenKindOneAndKindTwo() {
        times(2 * NORMAL - LEAST, -1, NORMAL);
        times(2 - 0x1p-52, -1023, NORMAL);
        times(MOST, -2046, NORMAL);
    }

    void inTheMiddleOfEachLength() {
        for (int length = 2; length <= 52; length++) {
            double even = (double) (1L << length) * LEAST;
            double odd = even + LEAST;
            times(2 * even + LEAST, -1, even);
            times(2 * odd + LEAST, -1, odd + LEAST);
            times(2 * even - LEAST, -1, even);
        }
    }

    void besideTheMiddleTheNearestOne() {
        times(5 * LEAST, -2, LEAST);
        times(6 * LEAST, -2, 2 * LEAST);
        times(7 * LEAST, -2, 2 * LEAST);
        times(9 * LEAST, -2, 2 * LEAST);
        times(10 * LEAST, -2, 2 * LEAST);
        times(11 * LEAST, -2, 3 * LEAST);
        times(3 * LEAST, -2, LEAST);
        times(2 * LEAST, -2, 0);
        times(LEAST, -2, 0);
    }

    void besideTheMiddleByTheLastDigitAlone() {
        times(Math.nextDown(1.0), -1075, 0);
        times(1, -1075, 0);
        times(Math.nextUp(1.0), -1075, LEAST);
        times(Math.nextDown(1.5), -1074, LEAST);
        times(1.5, -1074, 2 * LEAST);
        times(Math.nextUp(1.5), -1074, 2 * LEAST);
        times(Math.nextDown(2.5), -1074, 2 * LEAST);
        times(2.5, -1074, 2 * LEAST);
        times(Math.nextUp(2.5), -1074, 3 * LEAST);
    }

    void belowTheLeastSizeNearItsOwn() {
        times(Math.nextDown(1.0), -1074, LEAST);
        times(1, -1074, LEAST);
        times(Math.nextUp(1.0), -1074, LEAST);
    }

    void whatIsExactStays() {
        times(2 * NORMAL - 2 * LEAST, -1, NORMAL - LEAST);
        times(NORMAL, -52, LEAST);
        times(NORMAL, -53, 0);
        times(NORMAL + LEAST, -53, LEAST);
        times(NORMAL - LEAST, 1, 2 * NORMAL - 2 * LEAST);
        times(NORMAL / 2, 1, NORMAL);
        times(LEAST, 51, NORMAL / 2);
        times(LEAST, 52, NORMAL);
        times(LEAST, 1074, 1);
        times(1, -1074, LEAST);
        times(1.5, -1073, 3 * LEAST);
    }

    void roundedOnceAndNotTwice() {
        // To 53 digits first, this would come to lie in the middle, and from there go to the even one.
        times(NORMAL + (0x1p51 - 1) * LEAST, -52, LEAST);
        times((0x1p52 - 1) * LEAST, -53, 0);
        times(0x1.7ffffffffffffp0, -1074, LEAST);
        times(0x1.2p0, -1074, LEAST);
        times(0x1.8000000000001p-1, -1074, LEAST);
    }

    // ---- from 2^1024 - 2^970 on ENDLESS

    void theGreatestSizeIsNotEndless() {
        times(MOST / 2, 1, MOST);
        times(2 - 0x1p-52, 1023, MOST);
        times(1, 1023, 0x1p1023);
        times(2 * NORMAL - LEAST, 2045, MOST);
        times(0x1p1022, 1, 0x1p1023);
        times(LEAST, 2097, 0x1p1023);
    }

    void theFirstBeyondIsEndless() {
        times(MOST, 1, ENDLESS);
        times(0x1p1023, 1, ENDLESS);
        times(1, 1024, ENDLESS);
        times(2 - 0x1p-52, 1024, ENDLESS);
        times(2 * NORMAL - LEAST, 2046, ENDLESS);
        times(LEAST, 2098, ENDLESS);
        times(NORMAL - LEAST, 2047, ENDLESS);
        times(NORMAL - LEAST, 2046, MOST - 0x1p971);
    }

    // ---- TIMES of what stays, and the greatest and least k

    void nothingAndEndlessStay() {
        for (int k : new int[] {LEAST_INT, -2200, -1075, -1, 0, 1, 1024, 2200, MOST_INT}) {
            times(0, k, 0);
            times(ENDLESS, k, ENDLESS);
        }
    }

    void timesOneStays() {
        for (Edge edge : EDGES) {
            times(edge.number, 0, edge.number);
        }
    }

    void timesTheGreatestAndTheLeastPower() {
        for (Edge edge : EDGES) {
            boolean stays = edge.kind == 0 || edge.kind == 4;
            for (int k : new int[] {2098, 2099, 2200, 2201, 1 << 20, MOST_INT - 2000, MOST_INT - 1, MOST_INT}) {
                times(edge.number, k, stays ? edge.number : ENDLESS);
            }
            for (int k : new int[] {-2099, -2200, -2201, -(1 << 20), LEAST_INT + 2000, LEAST_INT + 1, LEAST_INT}) {
                times(edge.number, k, stays ? edge.number : 0);
            }
        }
    }

    void theLastPowerThatLeavesASize() {
        times(MOST, -2098, LEAST);
        times(MOST, -2099, 0);
        times(LEAST, 2097, 0x1p1023);
        times(LEAST, 2098, ENDLESS);
    }

    void unitOfWhatStaysAndOfTheBounds() {
        double[][] due = {
            {0, 0}, {LEAST, 0x1p-51}, {NORMAL - LEAST, 2 - 0x1p-51}, {NORMAL, 1}, {NORMAL + LEAST, 1 + 0x1p-52}, {1, 1},
            {2 - 0x1p-52, 2 - 0x1p-52}, {0x1p1023, 1}, {MOST, 2 - 0x1p-52}, {ENDLESS, ENDLESS}
        };
        for (double[] pair : due) {
            for (int side = 1; side >= -1; side -= 2) {
                Exactdoubles board = Boards.with(side * pair[0]);
                check.same("the kind of the unit of " + side * pair[0], board.unit(0, 1), board.kind(1));
                check.same("the unit of " + side * pair[0], Boards.number(board, 1), side * pair[1]);
            }
        }
    }

    // ---- promise 5

    void powerOfTheGreatestAndTheLeast() {
        power(1100, ENDLESS, 4);
        power(-1100, 0, 0);
    }

    void powerAtTheBoundsOfItsKinds() {
        power(1024, ENDLESS, 4);
        power(1023, 0x1p1023, 3);
        power(1, 2, 3);
        power(0, 1, 3);
        power(-1, 0.5, 2);
        power(-1022, NORMAL, 2);
        power(-1023, NORMAL / 2, 1);
        power(-1074, LEAST, 1);
        power(-1075, 0, 0);
        power(-1076, 0, 0);
    }

    // ---- promise 48

    void backFromTheGreatestAndTheLeastPower() {
        for (Edge edge : EDGES) {
            boolean stays = edge.kind == 0 || edge.kind == 4;
            back(edge.number, 2200, stays);
            back(edge.number, -2200, stays);
            back(edge.number, 0, true);
        }
    }

    void backOverTheUpperBound() {
        back(1, 1023, true);
        back(1, 1024, false);
        back(MOST, 1, false);
        back(MOST / 2, 1, true);
        back(LEAST, 2097, true);
        back(LEAST, 2098, false);
        back(NORMAL - LEAST, 2046, true);
        back(NORMAL - LEAST, 2047, false);
    }

    void backOverTheLowerBound() {
        back(1, -1074, true);
        back(1, -1075, false);
        back(1.5, -1073, true);
        back(1.5, -1074, false);
        back(LEAST, -1, false);
        back(2 * LEAST, -1, true);
        back(3 * LEAST, -1, false);
        back(NORMAL, -52, true);
        back(NORMAL, -53, false);
        back(2 * NORMAL - LEAST, -1, false);
        back(2 * NORMAL - 2 * LEAST, -1, true);
        back(MOST, -2045, true);
        back(MOST, -2046, false);
        back(0x1p1023, -2097, true);
        back(0x1p1023, -2098, false);
    }
}
