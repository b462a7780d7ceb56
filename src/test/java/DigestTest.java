import java.math.BigInteger;
import java.util.ArrayList;
import java.util.List;

/** Promise 54: the digest over whole numbers without an end, taken modulo 2^64 last, and some that are written down. */
public final class DigestTest {
    private static final BigInteger ROOM = BigInteger.ONE.shiftLeft(64);
    private static final double[][] BOARDS = {
        {},
        {1.5, -0.0, Boards.LEAST, -Boards.MOST, Boards.ENDLESS, 0.5 - 0x1p52},
        {Boards.ENDLESS, Boards.ENDLESS, Boards.ENDLESS, Boards.ENDLESS, Boards.ENDLESS, Boards.ENDLESS},
        {-Boards.ENDLESS, -Boards.ENDLESS, -Boards.ENDLESS, -Boards.ENDLESS, -Boards.ENDLESS, -Boards.ENDLESS},
        {-0.0, -0.0, -0.0, -0.0, -0.0, -0.0},
        {0x1p63, -0x1p63, 0x1p31, -0x1p31, 0x1p63 - 0x1p10, 0x1p31 - 0.5},
        {Boards.LEAST, -Boards.LEAST, Boards.NORMAL, -Boards.NORMAL, Boards.NORMAL - Boards.LEAST, 0},
        {1, 1 + 0x1p-52, 1 + 40 * 0x1p-52, 1 + 41 * 0x1p-52, 1 - 0x1p-53, 0.5},
        {-0.75, 9.5, 0.25, -9.5, 99.75, -0.5},
    };

    /** The digests of these boards, worked out once over exact fractions, with no code of this project. */
    private static final long[] DIGESTS = {
        -7399719974947075021L, 7249015568076726054L, 5860153251882037915L, -3151959614080644053L, -5882479633134117089L,
        7194175870349364517L, 6929618552833784006L, -7995304358611305664L, -8572394356079667550L
    };

    private final Check check = new Check("DigestTest");

    public static void main(String[] args) throws Exception {
        DigestTest tests = new DigestTest();
        tests.check.runTests(tests);
        tests.check.finish();
    }

    private static List<Long> values(Exactdoubles x) {
        List<Long> values = new ArrayList<>();
        for (int what = 0; what < 4; what++) {
            values.add((long) x.house(what));
        }
        for (int c = 0; c < 6; c++) {
            for (int what = 0; what < 4; what++) {
                values.add((long) x.digits(c, what));
            }
            long[] of = {
                x.kind(c), x.text(c).length(), x.exponent(c), x.round(c, true), x.round(c, false), x.rounded(c).length(),
                x.cut(c).length(), x.shortened(c), x.signed(c), x.place(c), x.floorOf(c).length(), x.ceilOf(c).length(),
                x.rintOf(c).length(), x.stepOf(c).length(), x.nextOf(c, false).length(), x.nextOf(c, true).length()
            };
            for (long value : of) {
                values.add(value);
            }
        }
        for (int one = 0; one < 6; one++) {
            for (int other = 0; other < 6; other++) {
                values.add((long) x.compare(one, other));
                values.add((long) x.apart(one, other));
            }
        }
        values.add((long) x.greatest().length());
        values.add((long) x.least().length());
        values.add(x.isSound() ? 1L : 0L);
        return values;
    }

    private static BigInteger endless(List<Long> values) {
        BigInteger d = BigInteger.valueOf(7794);
        for (long value : values) {
            d = d.multiply(BigInteger.valueOf(31)).add(BigInteger.valueOf(value));
        }
        return d;
    }

    void wrapsAroundAsALong() {
        for (double[] numbers : BOARDS) {
            Exactdoubles board = Boards.with(numbers);
            List<Long> values = values(board);
            check.same("values", values.size(), 4 + 6 * 20 + 72 + 3);
            BigInteger due = endless(values);
            check.isTrue("it wraps around", due.abs().compareTo(ROOM) > 0);
            check.same("the digest", board.digest(), due.longValue());
            check.same("modulo 2^64", BigInteger.valueOf(board.digest()).mod(ROOM), due.mod(ROOM));
        }
    }

    void thoseThatAreWrittenDown() {
        for (int at = 0; at < BOARDS.length; at++) {
            check.same("the digest of board " + at, Boards.with(BOARDS[at]).digest(), DIGESTS[at]);
        }
    }

    void askingChangesNothing() {
        for (double[] numbers : BOARDS) {
            Exactdoubles board = Boards.with(numbers);
            long first = board.digest();
            check.same("the digest again", board.digest(), first);
        }
    }

    void eachCountIsInIt() {
        for (double[] numbers : BOARDS) {
            Exactdoubles board = Boards.with(numbers);
            long start = board.digest();
            board.knock();
            long knocked = board.digest();
            board.bits(0, -1, -1);
            long refused = board.digest();
            board.copy(5, 5);
            long given = board.digest();
            long cells = power(31, 6 * 20 + 72 + 3);
            check.same("a knock", knocked - start, cells * 31);
            check.same("a refused call", refused - knocked, cells * 31 * 31);
            check.same("a number that is given", given - refused, cells * 31 * 31 * 31);
        }
    }

    private static long power(long base, int k) {
        long power = 1;
        for (int done = 0; done < k; done++) {
            power *= base;
        }
        return power;
    }
}
