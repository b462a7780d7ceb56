import java.util.ArrayList;
import java.util.List;

/** What the tests share: boards with numbers in their cells, what a cell has, and all that a board answers. */
final class Boards {
    static final int CELLS = 6;

    static final double LEAST = 0x1p-1074;
    static final double NORMAL = 0x1p-1022;
    static final double MOST = Double.MAX_VALUE;
    static final double ENDLESS = Double.POSITIVE_INFINITY;

    private Boards() {
    }

    /** A board with these numbers in its first cells. */
    static Exactdoubles with(double... numbers) {
        Exactdoubles board = new Exactdoubles();
        for (int cell = 0; cell < numbers.length; cell++) {
            put(board, cell, numbers[cell]);
        }
        return board;
    }

    static void put(Exactdoubles board, int cell, double number) {
        long digits = Double.doubleToRawLongBits(number);
        board.bits(cell, (int) (digits >> 32), (int) digits);
    }

    /** The digits of a cell, put together. */
    static long digits(Exactdoubles board, int cell) {
        return (long) board.digits(cell, 0) << 63 | (long) board.digits(cell, 1) << 52
            | (long) board.digits(cell, 2) << 32 | board.digits(cell, 3) & 0xffffffffL;
    }

    static double number(Exactdoubles board, int cell) {
        return Double.longBitsToDouble(digits(board, cell));
    }

    /** All that can be asked of a board without changing it: what stays the same here has changed nothing. */
    static List<Object> answers(Exactdoubles board) {
        List<Object> answers = new ArrayList<>();
        for (int what = 0; what < 4; what++) {
            answers.add(board.house(what));
        }
        for (int cell = 0; cell < CELLS; cell++) {
            for (int what = 0; what < 4; what++) {
                answers.add(board.digits(cell, what));
            }
            answers.add(board.kind(cell));
            answers.add(board.text(cell));
            answers.add(board.rounded(cell));
            answers.add(board.place(cell));
            for (int other = 0; other < CELLS; other++) {
                answers.add(board.compare(cell, other));
            }
        }
        answers.add(board.greatest());
        answers.add(board.least());
        answers.add(board.digest());
        return answers;
    }
}
