/** Section 2, sentence by sentence, over every edge and what lies beside it, of both SIDES. */
public final class MadeTest {
    private static final double LEAST = Boards.LEAST;
    private static final double NORMAL = Boards.NORMAL;
    private static final double MOST = Boards.MOST;
    private static final double ENDLESS = Boards.ENDLESS;
    private static final double[] BOTH_ENDLESS = {ENDLESS, -ENDLESS};

    private static final Edge[] EDGES = Edge.all();

    private final Check check = new Check("MadeTest");

    public static void main(String[] args) throws Exception {
        MadeTest tests = new MadeTest();
        tests.check.runTests(tests);
        tests.check.finish();
    }

    private interface Making {
        int on(Exactdoubles board, int from, int into);
    }

    private interface Telling {
        Object on(Exactdoubles board, int cell);
    }

    /** What is made of a number, put into another cell and into its own, and its kind. */
    private void makes(String what, Making making, double from, double due) {
        Exactdoubles board = Boards.with(from, 7, 7, 7, 7, from);
        int kind = making.on(board, 0, 1);
        check.same(what + " of " + from, Boards.number(board, 1), due);
        check.same("the kind of " + what + " of " + from, kind, board.kind(1));
        check.same(what + " of " + from + " leaves it", Boards.number(board, 0), from);
        making.on(board, 5, 5);
        check.same(what + " of " + from + " in its own cell", Boards.number(board, 5), due);
    }

    private void tells(String what, Telling telling, double number, Object due) {
        check.same(what + " of " + number, telling.on(Boards.with(9.25, number), 1), due);
    }

    private void makesAndTells(String what, Making making, Telling telling, double from, double due) {
        makes(what, making, from, due);
        tells(what, telling, from, Model.textOf(due));
    }

    private void floors(double from, double due) {
        makesAndTells("FLOOR", Exactdoubles::floor, Exactdoubles::floorOf, from, due);
    }

    private void ceils(double from, double due) {
        makesAndTells("CEIL", Exactdoubles::ceil, Exactdoubles::ceilOf, from, due);
    }

    private void rints(double from, double due) {
        makesAndTells("RINT", Exactdoubles::rint, Exactdoubles::rintOf, from, due);
    }

    private void goesUp(double from, double due) {
        makesAndTells("UP", Exactdoubles::up, (board, cell) -> board.nextOf(cell, false), from, due);
    }

    private void goesDown(double from, double due) {
        makesAndTells("DOWN", Exactdoubles::down, (board, cell) -> board.nextOf(cell, true), from, due);
    }

    private void steps(double from, double due) {
        makesAndTells("STEP", Exactdoubles::step, Exactdoubles::stepOf, from, due);
    }

    private void rounds(double number, long due) {
        tells("ROUND", Exactdoubles::rounded, number, Long.toString(due));
        tells("ROUND / 2^32", (board, cell) -> board.round(cell, true), number, (int) (due >> 32));
        tells("ROUND modulo 2^32", (board, cell) -> board.round(cell, false), number, (int) due);
    }

    private void cuts(double number, long due) {
        tells("CUT", Exactdoubles::cut, number, Long.toString(due));
    }

    private void shortens(double number, int due) {
        tells("SHORT", Exactdoubles::shortened, number, due);
    }

    // ---- FLOOR, CEIL, RINT

    void floorOfEachEdge() {
        for (Edge edge : EDGES) {
            floors(edge.number, edge.floor);
            floors(-edge.number, -edge.ceil);
        }
    }

    void ceilOfEachEdge() {
        for (Edge edge : EDGES) {
            ceils(edge.number, edge.ceil);
            ceils(-edge.number, -edge.floor);
        }
    }

    void rintOfEachEdge() {
        for (Edge edge : EDGES) {
            rints(edge.number, edge.rint);
            rints(-edge.number, -edge.rint);
        }
    }

    void rintInTheMiddleIsTheEvenOne() {
        for (double even : new double[] {0, 2, 4, 6, 100, 0x1p30, 0x1p31 - 2, 0x1p51, 0x1p52 - 2}) {
            rints(even + 0.5, even);
            rints(-(even + 0.5), -even);
            if (even > 0) {
                rints(even - 0.5, even);
                rints(0.5 - even, -even);
            }
        }
        rints(0x1p52 - 0.5, 0x1p52);
        rints(0.5 - 0x1p52, -0x1p52);
    }

    void rintBesideTheMiddleIsTheNearestOne() {
        for (double middle : new double[] {0.5, 1.5, 2.5, 3.5, 0x1p31 - 0.5, 0x1p31 + 0.5, 0x1p49 + 0.5, 0x1p49 - 0.5}) {
            rints(Math.nextDown(middle), middle - 0.5);
            rints(Math.nextUp(middle), middle + 0.5);
            rints(-Math.nextDown(middle), -(middle - 0.5));
            rints(-Math.nextUp(middle), -(middle + 0.5));
        }
    }

    void whereTheWholeIsNothingTheSideStays() {
        for (double size : new double[] {0, LEAST, NORMAL - LEAST, NORMAL, 0.5 - 0x1p-54, 0.5}) {
            floors(size, 0.0);
            ceils(-size, -0.0);
            rints(size, 0.0);
            rints(-size, -0.0);
        }
        floors(1 - 0x1p-53, 0.0);
        ceils(0x1p-53 - 1, -0.0);
    }

    void belowNothingFloorIsOneLess() {
        for (double size : new double[] {LEAST, NORMAL, 0.5, 1 - 0x1p-53}) {
            floors(-size, -1);
            ceils(size, 1);
        }
    }

    void wholeOnesAreTheirOwn() {
        for (double whole : new double[] {0, 1, 2, 0x1p31, 0x1p52 - 1, 0x1p52, 0x1p52 + 1, 0x1p53 - 1, 0x1p1023, MOST}) {
            for (double number : new double[] {whole, -whole}) {
                floors(number, number);
                ceils(number, number);
                rints(number, number);
            }
        }
    }

    void ofEndlessAllThreeAreItself() {
        for (double endless : BOTH_ENDLESS) {
            floors(endless, endless);
            ceils(endless, endless);
            rints(endless, endless);
        }
    }

    // ---- ROUND, CUT, SHORT

    void roundOfEachEdge() {
        for (Edge edge : EDGES) {
            rounds(edge.number, edge.round);
            rounds(-edge.number, edge.roundTurned);
        }
    }

    void roundInTheMiddleIsTheGreaterOne() {
        for (long whole : new long[] {0, 1, 2, 3, (1L << 31) - 1, 1L << 31, 1L << 51, (1L << 52) - 1}) {
            rounds(whole + 0.5, whole + 1);
            rounds(-(whole + 0.5), -whole);
        }
    }

    void roundBesideTheMiddleIsTheNearestOne() {
        for (long whole : new long[] {0, 1, 2, 3, (1L << 31) - 1, 1L << 31, 1L << 49}) {
            double middle = whole + 0.5;
            rounds(Math.nextDown(middle), whole);
            rounds(Math.nextUp(middle), whole + 1);
            rounds(-Math.nextDown(middle), -whole);
            rounds(-Math.nextUp(middle), -whole - 1);
        }
    }

    void roundIsAtMostTheGreatestLong() {
        rounds(0x1p63 - 0x1p10, Long.MAX_VALUE - 1023);
        rounds(0x1p63, Long.MAX_VALUE);
        rounds(0x1p63 + 0x1p11, Long.MAX_VALUE);
        rounds(0x1p64, Long.MAX_VALUE);
        rounds(MOST, Long.MAX_VALUE);
        rounds(ENDLESS, Long.MAX_VALUE);
    }

    void roundIsAtLeastTheLeastLong() {
        rounds(0x1p10 - 0x1p63, Long.MIN_VALUE + 1024);
        rounds(-0x1p63, Long.MIN_VALUE);
        rounds(-0x1p63 - 0x1p11, Long.MIN_VALUE);
        rounds(-0x1p64, Long.MIN_VALUE);
        rounds(-MOST, Long.MIN_VALUE);
        rounds(-ENDLESS, Long.MIN_VALUE);
    }

    void halvesOfRoundWrapAtTheirBounds() {
        Exactdoubles board = Boards.with(0x1p31 - 1, 0x1p31, 0x1p32 - 1, 0x1p32, -1, -0x1p32);
        int[] upper = {0, 0, 0, 1, -1, -1};
        int[] lower = {Integer.MAX_VALUE, Integer.MIN_VALUE, -1, 0, -1, 0};
        for (int cell = 0; cell < 6; cell++) {
            check.same("the upper half in cell " + cell, board.round(cell, true), upper[cell]);
            check.same("the lower half in cell " + cell, board.round(cell, false), lower[cell]);
        }
        Boards.put(board, 0, -0x1p32 - 1);
        check.same("the upper half, rounded down", board.round(0, true), -2);
        check.same("the lower half of it", board.round(0, false), -1);
    }

    void cutOfEachEdge() {
        for (Edge edge : EDGES) {
            cuts(edge.number, edge.cut);
            cuts(-edge.number, edge.cutTurned);
        }
    }

    void cutGoesTowardsNothing() {
        for (double rest : new double[] {LEAST, 0.5 - 0x1p-54, 0.5, 1 - 0x1p-53}) {
            cuts(rest, 0);
            cuts(-rest, 0);
        }
        cuts(2 - 0x1p-52, 1);
        cuts(0x1p-52 - 2, -1);
        cuts(0x1p52 - 0.5, (1L << 52) - 1);
        cuts(0.5 - 0x1p52, 1 - (1L << 52));
    }

    void cutIsWithinTheSameBounds() {
        cuts(0x1p62, 1L << 62);
        cuts(0x1p63 - 0x1p10, Long.MAX_VALUE - 1023);
        cuts(0x1p10 - 0x1p63, Long.MIN_VALUE + 1024);
        for (double size : new double[] {0x1p63, 0x1p63 + 0x1p11, 0x1p64, 0x1p127, MOST, ENDLESS}) {
            cuts(size, Long.MAX_VALUE);
            cuts(-size, Long.MIN_VALUE);
        }
    }

    void shortOfEachEdge() {
        for (Edge edge : EDGES) {
            shortens(edge.number, edge.shortOne);
            shortens(-edge.number, edge.shortTurned);
        }
    }

    void shortIsAtMostTheGreatestInt() {
        shortens(0x1p31 - 2, Integer.MAX_VALUE - 1);
        shortens(0x1p31 - 1 - 0x1p-22, Integer.MAX_VALUE - 1);
        for (double size : new double[] {0x1p31 - 1, 0x1p31 - 0.5, 0x1p31, 0x1p32, 0x1p32 + 7, 0x1p63 - 0x1p10, 0x1p63, MOST, ENDLESS}) {
            shortens(size, Integer.MAX_VALUE);
        }
    }

    void shortIsAtLeastTheLeastInt() {
        shortens(1 - 0x1p31, Integer.MIN_VALUE + 1);
        shortens(0x1p-22 - 0x1p31, Integer.MIN_VALUE + 1);
        for (double size : new double[] {0x1p31, 0x1p31 + 0.5, 0x1p31 + 1, 0x1p32, 0x1p32 + 7, 0x1p63 - 0x1p10, 0x1p63, MOST, ENDLESS}) {
            shortens(-size, Integer.MIN_VALUE);
        }
    }

    // ---- UP, DOWN, STEP

    void upFromEachEdge() {
        for (Edge edge : EDGES) {
            goesUp(edge.number, edge.up);
            goesUp(-edge.number, -edge.down);
        }
    }

    void downFromEachEdge() {
        for (Edge edge : EDGES) {
            goesDown(edge.number, edge.down);
            goesDown(-edge.number, -edge.up);
        }
    }

    void upFromTheRungBelowNothingKeepsTheSide() {
        goesUp(-LEAST, -0.0);
        goesUp(-0.0, LEAST);
        goesUp(0.0, LEAST);
    }

    void downFromTheRungAboveNothingKeepsTheSide() {
        goesDown(LEAST, 0.0);
        goesDown(0.0, -LEAST);
        goesDown(-0.0, -LEAST);
    }

    void upEndsAtEndless() {
        goesUp(MOST, ENDLESS);
        goesUp(ENDLESS, ENDLESS);
        goesUp(-ENDLESS, -MOST);
    }

    void downEndsAtEndless() {
        goesDown(-MOST, -ENDLESS);
        goesDown(-ENDLESS, -ENDLESS);
        goesDown(ENDLESS, MOST);
    }

    void stepOfEachEdge() {
        for (Edge edge : EDGES) {
            steps(edge.number, edge.step);
            steps(-edge.number, edge.step);
        }
    }

    void stepOfAHighOfNothingIsThatOfOne() {
        for (double size : new double[] {0, LEAST, NORMAL - LEAST, NORMAL, 2 * NORMAL - LEAST}) {
            steps(size, LEAST);
            steps(-size, LEAST);
        }
        steps(2 * NORMAL, 2 * LEAST);
    }

    void stepCrossesTheBoundsOfTheKinds() {
        steps(Math.nextDown(0x1p-970), NORMAL / 2);
        steps(0x1p-970, NORMAL);
        steps(Math.nextDown(0x1p52), 0.5);
        steps(0x1p52, 1);
        steps(0x1p1022, 0x1p970);
        steps(MOST, 0x1p971);
    }

    void stepOfEndlessIsEndlessUp() {
        steps(ENDLESS, ENDLESS);
        steps(-ENDLESS, ENDLESS);
    }

    // ---- EXPONENT, SIGN, what is taken apart, texts

    void exponentOfEachEdge() {
        for (Edge edge : EDGES) {
            tells("EXPONENT", Exactdoubles::exponent, edge.number, edge.high - 1023);
            tells("EXPONENT", Exactdoubles::exponent, -edge.number, edge.high - 1023);
        }
    }

    void exponentAtTheBoundsOfHigh() {
        for (double number : new double[] {0, -0.0, LEAST, NORMAL - LEAST}) {
            tells("EXPONENT", Exactdoubles::exponent, number, -1023);
        }
        tells("EXPONENT", Exactdoubles::exponent, NORMAL, -1022);
        tells("EXPONENT", Exactdoubles::exponent, 1 - 0x1p-53, -1);
        tells("EXPONENT", Exactdoubles::exponent, 1, 0);
        tells("EXPONENT", Exactdoubles::exponent, MOST, 1023);
        for (double endless : BOTH_ENDLESS) {
            tells("EXPONENT", Exactdoubles::exponent, endless, 1024);
        }
    }

    void unitOfEachEdge() {
        for (Edge edge : EDGES) {
            makes("unit", Exactdoubles::unit, edge.number, edge.unit);
            makes("unit", Exactdoubles::unit, -edge.number, -edge.unit);
        }
    }

    void signOfEachEdge() {
        for (Edge edge : EDGES) {
            double due = edge.number == 0 ? 0 : 1;
            makes("SIGN", Exactdoubles::sign, edge.number, due);
            makes("SIGN", Exactdoubles::sign, -edge.number, -due);
            tells("signed", Exactdoubles::signed, edge.number, (int) due);
            tells("signed", Exactdoubles::signed, -edge.number, (int) -due);
        }
    }

    void signOfTheValueNothingIsItself() {
        makes("SIGN", Exactdoubles::sign, 0.0, 0.0);
        makes("SIGN", Exactdoubles::sign, -0.0, -0.0);
        makes("SIGN", Exactdoubles::sign, LEAST, 1);
        makes("SIGN", Exactdoubles::sign, -LEAST, -1);
        makes("SIGN", Exactdoubles::sign, ENDLESS, 1);
        makes("SIGN", Exactdoubles::sign, -ENDLESS, -1);
    }

    void sizeAndTurnOfEachEdge() {
        for (Edge edge : EDGES) {
            makes("size", Exactdoubles::size, edge.number, edge.number);
            makes("size", Exactdoubles::size, -edge.number, edge.number);
            makes("turn", Exactdoubles::turn, edge.number, -edge.number);
            makes("turn", Exactdoubles::turn, -edge.number, edge.number);
            makes("copy", Exactdoubles::copy, edge.number, edge.number);
            makes("copy", Exactdoubles::copy, -edge.number, -edge.number);
        }
    }

    void textOfEachEdge() {
        for (Edge edge : EDGES) {
            tells("the text", Exactdoubles::text, edge.number, edge.text);
            tells("the text", Exactdoubles::text, -edge.number, "-" + edge.text);
        }
    }

    void textHasTheOddFactor() {
        for (int shift = 0; shift <= 52; shift++) {
            double number = (double) (1L << shift);
            tells("the text", Exactdoubles::text, number, "1*2^" + shift);
            tells("the text", Exactdoubles::text, 3 * number, "3*2^" + shift);
            tells("the text", Exactdoubles::text, LEAST * number, "1*2^" + (shift - 1074));
        }
    }

    void textOfEachPower() {
        for (int k = -1074; k <= 1023; k++) {
            tells("the text", Exactdoubles::text, Math.scalb(-1.0, k), "-1*2^" + k);
        }
    }
}
