import java.math.BigDecimal;
import java.math.BigInteger;
import java.math.RoundingMode;
import java.util.Random;

/** Sections 1 and 2 word by word, over exact values (no doubles), for numbers near the edges and for any others. */
public final class DefinitionTest {
    private static final int NUMBERS = 4000;
    private static final BigDecimal HALF = new BigDecimal("0.5");
    private static final BigDecimal MOST_LONG = BigDecimal.valueOf(Long.MAX_VALUE);
    private static final BigDecimal LEAST_LONG = BigDecimal.valueOf(Long.MIN_VALUE);
    private static final BigDecimal ENDLESS_FROM = power(1024).subtract(power(970));

    private final Check check = new Check("DefinitionTest");
    private final Random random = new Random(54);

    public static void main(String[] args) {
        DefinitionTest test = new DefinitionTest();
        for (int i = 0; i < NUMBERS; i++) {
            test.oneNumber(test.digits(i));
        }
        test.check.finish();
    }

    private long digits(int i) {
        long side = random.nextBoolean() ? Long.MIN_VALUE : 0;
        int high = i % 4 == 0 ? random.nextInt(2047) : i % 4 == 1 ? random.nextInt(3) : 1018 + random.nextInt(72);
        long low = random.nextLong() >>> 12;
        low = i % 3 == 0 ? low & -1L << random.nextInt(52) : i % 3 == 1 ? low | (1L << random.nextInt(53)) - 1 : low;
        return side | (long) high << 52 | low & (1L << 52) - 1;
    }

    private static BigDecimal power(int k) {
        BigDecimal size = new BigDecimal(BigInteger.ONE.shiftLeft(Math.abs(k)));
        return k >= 0 ? size : HALF.pow(-k);
    }

    /** The VALUE of what has these DIGITS, which is not ENDLESS. */
    private static BigDecimal value(long digits) {
        int high = (int) (digits >>> 52) & 2047;
        BigDecimal low = BigDecimal.valueOf(digits & (1L << 52) - 1);
        BigDecimal size = high == 0
            ? low.multiply(power(-1074))
            : BigDecimal.ONE.add(low.multiply(power(-52))).multiply(power(high - 1023));
        return digits < 0 ? size.negate() : size;
    }

    private static long read(Exactdoubles board, int cell) {
        return (long) board.digits(cell, 0) << 63 | (long) board.digits(cell, 1) << 52
            | (long) board.digits(cell, 2) << 32 | board.digits(cell, 3) & 0xffffffffL;
    }

    private static boolean isEndless(long digits) {
        return (digits & Long.MAX_VALUE) == 2047L << 52;
    }

    private void equal(String what, BigDecimal got, BigDecimal due) {
        check.same(what, got.compareTo(due), 0);
    }

    private void oneNumber(long digits) {
        Exactdoubles board = new Exactdoubles();
        board.bits(0, (int) (digits >> 32), (int) digits);
        BigDecimal value = value(digits);
        String of = " of " + Long.toHexString(digits);
        check.same("digits" + of, read(board, 0), digits);
        wholes(board, value, digits < 0, of);
        longs(board, value, of);
        texts(board, value, digits < 0, of);
        kinds(board, value, of);
        neighbours(board, value, digits, of);
        for (int i = 0; i < 6; i++) {
            times(board, value, digits, of);
        }
    }

    private void wholes(Exactdoubles board, BigDecimal value, boolean isDown, String of) {
        board.floor(0, 1);
        board.ceil(0, 2);
        board.rint(0, 3);
        RoundingMode[] modes = {RoundingMode.FLOOR, RoundingMode.CEILING, RoundingMode.HALF_EVEN};
        for (int i = 0; i < modes.length; i++) {
            BigDecimal due = value.setScale(0, modes[i]);
            equal(modes[i] + of, value(read(board, i + 1)), due);
            if (due.signum() == 0) {
                check.same(modes[i] + " keeps the side" + of, board.digits(i + 1, 0), isDown ? 1 : 0);
            }
        }
    }

    private void longs(Exactdoubles board, BigDecimal value, String of) {
        BigDecimal round = value.add(HALF).setScale(0, RoundingMode.FLOOR).min(MOST_LONG).max(LEAST_LONG);
        BigDecimal cut = value.setScale(0, RoundingMode.DOWN).min(MOST_LONG).max(LEAST_LONG);
        check.same("rounded" + of, board.rounded(0), round.toBigInteger().toString());
        check.same("round" + of, board.round(0, true), (int) (round.longValueExact() >> 32));
        check.same("cut" + of, board.cut(0), cut.toBigInteger().toString());
        long small = Math.max(Integer.MIN_VALUE, Math.min(Integer.MAX_VALUE, cut.longValueExact()));
        check.same("shortened" + of, board.shortened(0), (int) small);
        check.same("signed" + of, board.signed(0), value.signum());
    }

    private void texts(Exactdoubles board, BigDecimal value, boolean isDown, String of) {
        String text = board.text(0);
        check.same("text's side" + of, text.startsWith("-"), isDown);
        String size = isDown ? text.substring(1) : text;
        if (value.signum() == 0) {
            check.same("text" + of, size, "0");
            return;
        }
        String[] parts = size.split("\\*2\\^");
        BigInteger factor = new BigInteger(parts[0]);
        check.isTrue("text's m is odd" + of, factor.testBit(0) && factor.bitLength() <= 53);
        equal("text" + of, new BigDecimal(factor).multiply(power(Integer.parseInt(parts[1]))), value.abs());
    }

    private void kinds(Exactdoubles board, BigDecimal value, String of) {
        int due = 2;
        if (value.signum() == 0) {
            due = 0;
        } else if (value.abs().compareTo(power(-1022)) < 0) {
            due = 1;
        } else if (value.setScale(0, RoundingMode.DOWN).compareTo(value) == 0) {
            due = 3;
        }
        check.same("kind" + of, board.kind(0), due);
        check.same("isWhole" + of, board.isWhole(0), due == 0 || due == 3);
    }

    private static long rung(long digits) {
        return digits < 0 ? -(digits & Long.MAX_VALUE) : digits;
    }

    private void neighbours(Exactdoubles board, BigDecimal value, long digits, String of) {
        board.up(0, 1);
        board.down(0, 2);
        board.step(0, 3);
        check.same("up's rung" + of, rung(read(board, 1)), rung(digits) + 1);
        check.same("down's rung" + of, rung(read(board, 2)), rung(digits) - 1);
        int high = Math.max(1, board.digits(0, 1));
        equal("step" + of, value(read(board, 3)), power(high - 1075));
        check.same("step's side" + of, board.digits(3, 0), 0);
        check.isTrue("isNext" + of, board.isNext(0, 1) && !board.isNext(0, 2));
        check.same("apart" + of, board.apart(2, 1), 2);
        board.sign(0, 4);
        equal("sign" + of, value(read(board, 4)), BigDecimal.valueOf(value.signum()));
    }

    private void times(Exactdoubles board, BigDecimal value, long digits, String of) {
        int high = board.digits(0, 1);
        int k = random.nextBoolean() ? -high + random.nextInt(80) - 70 : 2047 - high + random.nextInt(7) - 3;
        board.times(0, k, 5);
        long got = read(board, 5);
        String what = "times 2^" + k + of;
        check.same(what + ", the side", got < 0, digits < 0);
        BigDecimal size = value.abs().multiply(power(k));
        if (size.compareTo(ENDLESS_FROM) >= 0) {
            check.isTrue(what + " is endless", isEndless(got));
            return;
        }
        check.isTrue(what + " is nearest", !isEndless(got) && isNearest(got & Long.MAX_VALUE, size));
    }

    private static boolean isNearest(long digits, BigDecimal size) {
        BigDecimal here = value(digits).subtract(size).abs();
        boolean isOdd = (digits & 1) == 1;
        return (digits == 0 || isNoFarther(here, value(digits - 1).subtract(size).abs(), isOdd))
            && (isEndless(digits + 1) || isNoFarther(here, value(digits + 1).subtract(size).abs(), isOdd));
    }

    private static boolean isNoFarther(BigDecimal here, BigDecimal there, boolean isOdd) {
        int order = here.compareTo(there);
        return order < 0 || order == 0 && !isOdd;
    }
}
