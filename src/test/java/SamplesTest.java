/** Section 3 and promise 7: each SAMPLE by its DIGITS, its text and its kind, of both SIDES. */
public final class SamplesTest {
    private static final Check CHECK = new Check("SamplesTest");

    private static final String[] TEXTS = {
        "1*2^-1074", "4503599627370495*2^-1074", "1*2^-1022", "9007199254740991*2^971", "9007199254740991*2^-53",
        "9007199254740991*2^-54", "9007199254740991*2^-1", "9007199254740991*2^0", "9007199254740991*2^10",
        "4294967295*2^-1", "5*2^-1", "4503599627370497*2^0"
    };
    private static final long[] DIGITS = {
        1L, 0x000fffffffffffffL, 0x0010000000000000L, 0x7fefffffffffffffL, 0x3fefffffffffffffL, 0x3fdfffffffffffffL,
        0x432fffffffffffffL, 0x433fffffffffffffL, 0x43dfffffffffffffL, 0x41dfffffffe00000L, 0x4004000000000000L,
        0x4330000000000001L
    };
    private static final int[] KINDS = {1, 1, 2, 3, 2, 2, 2, 3, 3, 2, 2, 3};

    public static void main(String[] args) {
        CHECK.same("samples", TEXTS.length, 12);
        for (int which = 0; which < TEXTS.length; which++) {
            for (int cell = 0; cell < 6; cell++) {
                sampled(which, cell, false);
                sampled(which, cell, true);
            }
        }
        CHECK.finish();
    }

    private static void sampled(int which, int cell, boolean isDown) {
        String what = "sample " + which + (isDown ? ", down, in cell " : " in cell ") + cell;
        Exactdoubles board = Boards.with(9, 9, 9, 9, 9, 9);
        CHECK.same("the kind of " + what, board.sample(cell, which, isDown), KINDS[which]);
        CHECK.same("the text of " + what, board.text(cell), (isDown ? "-" : "") + TEXTS[which]);
        CHECK.same("the digits of " + what, Boards.digits(board, cell), DIGITS[which] | (isDown ? Long.MIN_VALUE : 0));
        CHECK.same("given by " + what, board.house(0), 7);
        int others = 0;
        for (int other = 0; other < 6; other++) {
            others += Boards.number(board, other) == 9 ? 1 : 0;
        }
        CHECK.same("others that " + what + " leaves", others, 5);
    }
}
