import java.util.List;

/** Promises 1 to 53 where their own words name a bound that no other test stands on. */
public final class BoardTest {
    private static final double LEAST = Boards.LEAST;
    private static final double NORMAL = Boards.NORMAL;
    private static final double MOST = Boards.MOST;
    private static final double ENDLESS = Boards.ENDLESS;
    private static final int REFUSED = -9;
    private static final int NONE = -1;

    private static final Edge[] EDGES = Edge.all();

    private final Check check = new Check("BoardTest");

    public static void main(String[] args) throws Exception {
        BoardTest tests = new BoardTest();
        tests.check.runTests(tests);
        tests.check.finish();
    }

    private void has(String what, Exactdoubles board, int cell, double due) {
        check.same(what, Boards.number(board, cell), due);
    }

    // ---- promises 2 to 4

    void zeroAndEndlessOfBothSidesInEachCell() {
        for (int cell = 0; cell < 6; cell++) {
            for (int side = 0; side < 2; side++) {
                Exactdoubles board = Boards.with(1, 1, 1, 1, 1, 1);
                check.same("the kind of zero", board.zero(cell, side == 1), 0);
                has("zero in cell " + cell, board, cell, side == 1 ? -0.0 : 0.0);
                check.same("the kind of endless", board.endless(cell, side == 1), 4);
                has("endless in cell " + cell, board, cell, side == 1 ? -ENDLESS : ENDLESS);
                check.same("the others", board.house(3), 5);
            }
        }
    }

    void quartersOfNothingHaveTheSideNothing() {
        Exactdoubles board = Boards.with(-0.0, -1);
        check.same("the kind of 0 / 4", board.quarters(0, 0), 0);
        has("0 / 4 over -0", board, 0, 0.0);
        board.quarters(1, 0);
        has("0 / 4 over -1", board, 1, 0.0);
    }

    void quartersAtTheBoundsOfAnInt() {
        Exactdoubles board = new Exactdoubles();
        check.same("the kind of the least", board.quarters(0, Integer.MIN_VALUE), 3);
        check.same("the least", board.text(0), "-1*2^29");
        check.same("the kind of the greatest", board.quarters(1, Integer.MAX_VALUE), 2);
        check.same("the greatest", board.text(1), "2147483647*2^-2");
        check.same("the kind beside the least", board.quarters(2, Integer.MIN_VALUE + 1), 2);
        check.same("beside the least", board.text(2), "-2147483647*2^-2");
    }

    void quartersBesideNothing() {
        for (int many = -9; many <= 9; many++) {
            Exactdoubles board = Boards.with(-0.0);
            int kind = board.quarters(0, many);
            has(many + " / 4", board, 0, many / 4.0);
            check.same("the kind of " + many + " / 4", kind, many == 0 ? 0 : many % 4 == 0 ? 3 : 2);
        }
    }

    // ---- promise 6

    private void refusesBits(int upper, int lower) {
        Exactdoubles board = Boards.with(1.5, -0.0, 7, ENDLESS, -LEAST, MOST);
        for (int cell = 0; cell < 6; cell++) {
            long before = Boards.digits(board, cell);
            check.same("bits of no number in cell " + cell, board.bits(cell, upper, lower), REFUSED);
            check.same("cell " + cell + " stays", Boards.digits(board, cell), before);
            check.same("it is counted", board.house(1), cell + 1);
            check.same("nothing is given", board.house(0), 6);
        }
    }

    private void takesBits(int upper, int lower, double due, int kind) {
        Exactdoubles board = Boards.with(3, 3, 3);
        check.same("the kind of bits of " + due, board.bits(2, upper, lower), kind);
        has("bits of " + due, board, 2, due);
        check.same("nothing is refused", board.house(1), 0);
        check.same("given", board.house(0), 4);
    }

    void bitsOfNoNumberAreRefused() {
        int[] uppers = {0x7ff00000, 0xfff00000};
        for (int upper : uppers) {
            refusesBits(upper, 1);
            refusesBits(upper, Integer.MAX_VALUE);
            refusesBits(upper, Integer.MIN_VALUE);
            refusesBits(upper, -1);
            refusesBits(upper | 1, 0);
            refusesBits(upper | 0x80000, 0);
            refusesBits(upper | 0xfffff, 0);
            refusesBits(upper | 0xfffff, -1);
        }
    }

    void bitsAtTheBoundsOfWhatIsANumber() {
        takesBits(0x7ff00000, 0, ENDLESS, 4);
        takesBits(0xfff00000, 0, -ENDLESS, 4);
        takesBits(0x7fefffff, -1, MOST, 3);
        takesBits(0xffefffff, -1, -MOST, 3);
        takesBits(0, 0, 0.0, 0);
        takesBits(Integer.MIN_VALUE, 0, -0.0, 0);
        takesBits(0, 1, LEAST, 1);
        takesBits(Integer.MIN_VALUE, 1, -LEAST, 1);
        takesBits(0x000fffff, -1, NORMAL - LEAST, 1);
        takesBits(0x800fffff, -1, LEAST - NORMAL, 1);
        takesBits(0x00100000, 0, NORMAL, 2);
        takesBits(0x80100000, 0, -NORMAL, 2);
    }

    void lowerIsWithoutASide() {
        takesBits(0, Integer.MAX_VALUE, (0x1p31 - 1) * LEAST, 1);
        takesBits(0, Integer.MIN_VALUE, 0x1p31 * LEAST, 1);
        takesBits(0, -1, (0x1p32 - 1) * LEAST, 1);
        takesBits(1, 0, 0x1p32 * LEAST, 1);
        takesBits(0x3ff00000, -1, 1 + (0x1p32 - 1) * 0x1p-52, 2);
        takesBits(0xbff00000, Integer.MIN_VALUE, -1 - 0x1p-21, 2);
    }

    void digitsArePutTogetherAgain() {
        for (Edge edge : EDGES) {
            Exactdoubles board = Boards.with(-edge.number);
            int upper = board.digits(0, 0) << 31 | board.digits(0, 1) << 20 | board.digits(0, 2);
            board.bits(5, upper, board.digits(0, 3));
            check.isTrue(edge + " put together", board.areSame(0, 5));
        }
    }

    // ---- promises 8, 9 and 21 to 23

    void copyFromEachCellIntoEach() {
        for (int from = 0; from < 6; from++) {
            for (int into = 0; into < 6; into++) {
                Exactdoubles board = Boards.with(0.5, 1.5, 2.5, 3.5, 4.5, 5.5);
                board.copy(from, into);
                for (int cell = 0; cell < 6; cell++) {
                    has("copy " + from + " " + into, board, cell, (cell == into ? from : cell) + 0.5);
                }
            }
        }
    }

    void swapOfEachTwoCells() {
        double[] numbers = {0, LEAST, 0.5, -3, -ENDLESS, -0.0};
        int[] kinds = {0, 1, 2, 3, 4, 0};
        for (int one = 0; one < 6; one++) {
            for (int other = 0; other < 6; other++) {
                Exactdoubles board = Boards.with(numbers);
                check.same("the kind that the first one has then", board.swap(one, other), kinds[other]);
                for (int cell = 0; cell < 6; cell++) {
                    int due = cell == one ? other : cell == other ? one : cell;
                    has("swap " + one + " " + other, board, cell, numbers[due]);
                }
            }
        }
    }

    void sideOfBothOfTheValueNothingAndOfEndless() {
        double[] sides = {0.0, LEAST, ENDLESS};
        for (Edge edge : EDGES) {
            for (double side : sides) {
                Exactdoubles board = Boards.with(edge.number, -edge.number, side, -side);
                for (int size = 0; size < 2; size++) {
                    check.same("the kind with a side", board.side(size, 2, 4), edge.kind);
                    has(edge + " with the side of " + side, board, 4, edge.number);
                    board.side(size, 3, 5);
                    has(edge + " with the side of " + -side, board, 5, -edge.number);
                }
            }
        }
    }

    void sideIntoOneOfBoth() {
        Exactdoubles board = Boards.with(2.5, -ENDLESS);
        board.side(0, 1, 0);
        has("into the cell of the size", board, 0, -2.5);
        board.turn(0, 0);
        board.side(0, 1, 1);
        has("into the cell of the side", board, 1, -2.5);
        board.side(1, 1, 1);
        has("all three the same", board, 1, -2.5);
    }

    private void greaterAndLesser(double first, double last) {
        for (int one = 0; one < 2; one++) {
            Exactdoubles board = Boards.with(first, last, 9, 9);
            int kind = board.max(one, 1 - one, 2);
            has("the last of " + first + " and " + last, board, 2, last);
            check.same("its kind", kind, board.kind(2));
            kind = board.min(one, 1 - one, 3);
            has("the first of " + first + " and " + last, board, 3, first);
            check.same("its kind", kind, board.kind(3));
            board.max(one, 1 - one, 0);
            has("the last, into one of both", board, 0, last);
        }
    }

    void maxAndMinOfBothOfTheValueNothing() {
        greaterAndLesser(-0.0, 0.0);
        greaterAndLesser(0.0, 0.0);
        greaterAndLesser(-0.0, -0.0);
    }

    void maxAndMinBesideEachEdge() {
        for (Edge edge : EDGES) {
            double up = edge.kind == 4 ? ENDLESS : edge.up;
            greaterAndLesser(edge.number, up);
            greaterAndLesser(-up, -edge.number);
            greaterAndLesser(-edge.number, edge.number);
        }
    }

    // ---- promises 24 and 40

    private void walks(double from, int many, double due) {
        Exactdoubles board = Boards.with(9, from);
        int kind = board.walk(1, many);
        has(from + " walks " + many, board, 1, due);
        check.same("the kind after a walk", kind, board.kind(1));
        check.same("a walk counts once", board.house(0), 3);
    }

    void walkOfNoneStays() {
        for (Edge edge : EDGES) {
            walks(edge.number, 0, edge.number);
            walks(-edge.number, 0, -edge.number);
        }
    }

    void walkOfOneIsUpOrDown() {
        for (Edge edge : EDGES) {
            walks(edge.number, 1, edge.up);
            walks(edge.number, -1, edge.down);
            walks(-edge.number, 1, -edge.down);
            walks(-edge.number, -1, -edge.up);
        }
    }

    void walkOfTheMost() {
        walks(1, 40, 1 + 40 * 0x1p-52);
        walks(1, 39, 1 + 39 * 0x1p-52);
        walks(1, -40, 1 - 40 * 0x1p-53);
        walks(1, -39, 1 - 39 * 0x1p-53);
        walks(-1, 40, 40 * 0x1p-53 - 1);
        walks(-1, -40, -1 - 40 * 0x1p-52);
    }

    void walkOverNothing() {
        walks(-0.0, 40, 40 * LEAST);
        walks(0, -40, -40 * LEAST);
        walks(-40 * LEAST, 40, -0.0);
        walks(40 * LEAST, -40, 0.0);
        walks(-39 * LEAST, 40, LEAST);
        walks(39 * LEAST, -40, -LEAST);
        walks(-20 * LEAST, 40, 20 * LEAST);
    }

    void walkOverTheBoundsOfKindsAndPowers() {
        walks(NORMAL - 20 * LEAST, 40, NORMAL + 20 * LEAST);
        walks(NORMAL + 20 * LEAST, -40, NORMAL - 20 * LEAST);
        walks(2 - 20 * 0x1p-52, 40, 2 + 20 * 0x1p-51);
        walks(0x1p52 - 10, 40, 0x1p52 + 20);
    }

    void walkEndsAtEndless() {
        walks(MOST - 39 * 0x1p971, 40, ENDLESS);
        walks(MOST - 40 * 0x1p971, 40, MOST);
        walks(MOST, 40, ENDLESS);
        walks(ENDLESS, 40, ENDLESS);
        walks(ENDLESS, -40, MOST - 39 * 0x1p971);
        walks(-ENDLESS, -40, -ENDLESS);
        walks(-ENDLESS, 40, 39 * 0x1p971 - MOST);
    }

    private void lieApart(double one, double other, int due) {
        check.same("from " + one + " to " + other, Boards.with(one, other).apart(0, 1), due);
    }

    void apartOfItsOwnValue() {
        for (Edge edge : EDGES) {
            lieApart(edge.number, edge.number, 0);
            lieApart(-edge.number, -edge.number, 0);
        }
        lieApart(0.0, -0.0, 0);
        lieApart(-0.0, 0.0, 0);
        check.same("of one cell", Boards.with(1.5).apart(0, 0), 0);
    }

    void apartOfFortyAndOfMore() {
        double[] bounds = {0, LEAST, NORMAL - 7 * LEAST, 1 - 0x1p-50, 0x1p52 - 3, -NORMAL, -1, 0x1p1023};
        for (double bound : bounds) {
            Exactdoubles board = Boards.with(bound, bound);
            board.walk(1, 39);
            check.same("39 from " + bound, board.apart(0, 1), 39);
            board.up(1, 1);
            check.same("40 from " + bound, board.apart(0, 1), 40);
            check.same("40 back to " + bound, board.apart(1, 0), NONE);
            board.up(1, 1);
            check.same("41 from " + bound, board.apart(0, 1), NONE);
        }
    }

    void apartOverNothing() {
        lieApart(-20 * LEAST, 20 * LEAST, 40);
        lieApart(-20 * LEAST, 21 * LEAST, NONE);
        lieApart(-40 * LEAST, 0, 40);
        lieApart(-40 * LEAST, -0.0, 40);
        lieApart(-41 * LEAST, 0, NONE);
        lieApart(-0.0, 40 * LEAST, 40);
        lieApart(0.0, 41 * LEAST, NONE);
        lieApart(LEAST, 0, NONE);
        lieApart(LEAST, -0.0, NONE);
    }

    void apartOfWhatIsNeverReached() {
        lieApart(1 + 0x1p-52, 1, NONE);
        lieApart(ENDLESS, MOST, NONE);
        lieApart(ENDLESS, -ENDLESS, NONE);
        lieApart(MOST, -MOST, NONE);
        lieApart(1, -1, NONE);
    }

    void apartAtTheEnds() {
        lieApart(MOST, ENDLESS, 1);
        lieApart(MOST - 39 * 0x1p971, ENDLESS, 40);
        lieApart(MOST - 40 * 0x1p971, ENDLESS, NONE);
        lieApart(-ENDLESS, -MOST, 1);
        lieApart(-ENDLESS, 39 * 0x1p971 - MOST, 40);
        lieApart(-ENDLESS, 40 * 0x1p971 - MOST, NONE);
    }

    void apartOfTheFarthest() {
        lieApart(-ENDLESS, ENDLESS, NONE);
        lieApart(-MOST, MOST, NONE);
        lieApart(-1, 1, NONE);
        lieApart(-2, 2, NONE);
        lieApart(-Math.nextDown(2.0), Math.nextDown(2.0), NONE);
        lieApart(-Math.nextDown(2.0), 2.0, NONE);
        lieApart(0, ENDLESS, NONE);
        lieApart(-ENDLESS, 0, NONE);
    }

    // ---- promises 35 to 39 and 41

    private void isNext(double one, double other, boolean due) {
        check.same(other + " is next to " + one, Boards.with(one, other).isNext(0, 1), due);
    }

    void nextOfEachEdge() {
        for (Edge edge : EDGES) {
            isNext(edge.number, edge.up, true);
            isNext(-edge.number, -edge.down, true);
            isNext(edge.number, edge.number, edge.kind == 4);
            isNext(-edge.number, -edge.number, false);
            isNext(edge.number, edge.down, false);
        }
    }

    void nextHasTheDigitsAndNotTheValueAlone() {
        isNext(-LEAST, -0.0, true);
        isNext(-LEAST, 0.0, false);
        isNext(-0.0, 0.0, false);
        isNext(0.0, -0.0, false);
        isNext(-0.0, LEAST, true);
        isNext(0.0, LEAST, true);
    }

    void likeAndSameDifferForTheValueNothingAlone() {
        for (Edge edge : EDGES) {
            Exactdoubles board = Boards.with(edge.number, -edge.number, edge.number);
            check.same(edge + " and turned round, like", board.areLike(0, 1), edge.kind == 0);
            check.same(edge + " and turned round, same", board.areSame(0, 1), false);
            check.isTrue(edge + " and itself", board.areLike(0, 2) && board.areSame(0, 2));
        }
    }

    void besideEachOtherNoneIsLike() {
        for (Edge edge : EDGES) {
            Exactdoubles board = Boards.with(edge.number, edge.up, edge.down);
            check.same(edge + " and up, like", board.areLike(0, 1), edge.kind == 4);
            check.same(edge + " below up", board.isBelow(0, 1), edge.kind != 4);
            check.same(edge + " and down, like", board.areLike(0, 2), false);
            check.isTrue(edge + " above down", board.isBelow(2, 0));
            check.same(edge + " against down", board.compare(0, 2), 1);
        }
    }

    private void places(double[] numbers, int... due) {
        Exactdoubles board = Boards.with(numbers);
        for (int cell = 0; cell < 6; cell++) {
            check.same("the place of cell " + cell, board.place(cell), due[cell]);
        }
    }

    void placeOfAllTheSame() {
        places(new double[] {}, 0, 0, 0, 0, 0, 0);
        places(new double[] {7, 7, 7, 7, 7, 7}, 0, 0, 0, 0, 0, 0);
        places(new double[] {-ENDLESS, -ENDLESS, -ENDLESS, -ENDLESS, -ENDLESS, -ENDLESS}, 0, 0, 0, 0, 0, 0);
    }

    void placeOfTheFirstAndTheLast() {
        places(new double[] {-ENDLESS, -MOST, -0.0, 0.0, MOST, ENDLESS}, 0, 1, 2, 3, 4, 5);
        places(new double[] {ENDLESS, MOST, 0.0, -0.0, -MOST, -ENDLESS}, 5, 4, 3, 2, 1, 0);
        places(new double[] {0.0, -0.0, 0.0, -0.0, 0.0, -0.0}, 3, 0, 3, 0, 3, 0);
    }

    // ---- promises 42 to 50

    void tellingOfAnotherChangesNothing() {
        for (Edge edge : EDGES) {
            Exactdoubles board = Boards.with(-edge.number, edge.number);
            List<Object> before = Boards.answers(board);
            for (int cell = 0; cell < 2; cell++) {
                board.floorOf(cell);
                board.ceilOf(cell);
                board.rintOf(cell);
                board.stepOf(cell);
                board.nextOf(cell, false);
                board.nextOf(cell, true);
                board.timesOf(cell, 5);
                board.isBack(cell, -5);
            }
            check.same("asking of " + edge + " changes nothing", Boards.answers(board), before);
        }
    }

    void greatestAndLeastOfAllTheSame() {
        for (Edge edge : EDGES) {
            double n = -edge.number;
            Exactdoubles board = Boards.with(n, n, n, n, n, n);
            check.same("the greatest of six", board.greatest(), "-" + edge);
            check.same("the least of six", board.least(), "-" + edge);
        }
    }

    void greatestAndLeastOfBothOfTheValueNothing() {
        for (int cell = 0; cell < 6; cell++) {
            Exactdoubles board = new Exactdoubles();
            board.zero(cell, true);
            check.same("the greatest", board.greatest(), "0");
            check.same("the least", board.least(), "-0");
            board = Boards.with(-0.0, -0.0, -0.0, -0.0, -0.0, -0.0);
            board.zero(cell, false);
            check.same("the greatest", board.greatest(), "0");
            check.same("the least", board.least(), "-0");
        }
    }

    void greatestAndLeastWithEndless() {
        for (int cell = 0; cell < 6; cell++) {
            Exactdoubles board = Boards.with(MOST, -MOST, MOST, -MOST, MOST, -MOST);
            board.endless(cell, false);
            check.same("the greatest", board.greatest(), "E");
            check.same("the least", board.least(), "-9007199254740991*2^971");
            board.endless(cell, true);
            check.same("the greatest", board.greatest(), "9007199254740991*2^971");
            check.same("the least", board.least(), "-E");
        }
    }

    // ---- promise 53

    void soundAtEachEdgeAndBesideIt() {
        for (Edge edge : EDGES) {
            double n = edge.number;
            check.isTrue("sound: " + edge, Boards.with(n, -n, edge.up, edge.down, -edge.up, -edge.down).isSound());
            check.isTrue("sound: six times " + edge, Boards.with(n, n, n, n, n, n).isSound());
            check.isTrue("sound: six times -" + edge, Boards.with(-n, -n, -n, -n, -n, -n).isSound());
        }
    }

    void soundWithEachTwoEdges() {
        for (Edge one : EDGES) {
            for (Edge other : EDGES) {
                double n = one.number;
                double m = other.number;
                check.isTrue("sound: " + one + " and " + other, Boards.with(n, m, -m, -n, other.up, -other.down).isSound());
            }
        }
    }

    void soundWithEndlessOfBothSides() {
        check.isTrue("sound", Boards.with(ENDLESS, -ENDLESS, MOST, -MOST, 0.0, -0.0).isSound());
        check.isTrue("sound", Boards.with(-ENDLESS, -ENDLESS, -ENDLESS, ENDLESS, ENDLESS, ENDLESS).isSound());
    }

    void soundWhereTimesReachesEndless() {
        check.isTrue("sound", Boards.with(0x1p1018, 0x1p1019, Math.nextDown(0x1p1019), 0x1p1023, MOST, ENDLESS).isSound());
    }

    // ---- an object's last call

    void fiveHundredAndTwelveCalls() {
        Exactdoubles board = new Exactdoubles();
        for (int call = 1; call < 512; call++) {
            board.walk(call % 6, 40);
        }
        check.same("the last call", board.house(0), 511);
    }
}
