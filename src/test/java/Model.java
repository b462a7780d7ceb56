/** The document's board, told by Java's own doubles and its Math, as something to compare with. */
final class Model {
    static final double[] SAMPLES = {
        0x1p-1074, 0x1p-1022 - 0x1p-1074, 0x1p-1022, Double.MAX_VALUE, 1 - 0x1p-53, 0.5 - 0x1p-54,
        0x1p52 - 0.5, 0x1p53 - 1, 0x1p63 - 0x1p10, 0x1p31 - 0.5, 2.5, 0x1p52 + 1
    };

    private final double[] cells = new double[6];
    private int given;
    private int refused;
    private int knocks;

    private double at(int cell) {
        if (cell < 0 || cell > 5) {
            throw new IndexOutOfBoundsException();
        }
        return cells[cell];
    }

    private static void within(int k, int least, int most) {
        if (k < least || k > most) {
            throw new IllegalArgumentException();
        }
    }

    private int give(int cell, double number) {
        at(cell);
        cells[cell] = number;
        given++;
        return kindOf(number);
    }

    private static double sided(double size, boolean isDown) {
        return isDown ? -size : size;
    }

    private static int kindOf(double v) {
        if (v == 0) {
            return 0;
        }
        if (Math.abs(v) < Double.MIN_NORMAL) {
            return 1;
        }
        if (Double.isInfinite(v)) {
            return 4;
        }
        return v == Math.rint(v) ? 3 : 2;
    }

    static String textOf(double v) {
        boolean isDown = 1 / v < 0 || v < 0;
        String sign = isDown ? "-" : "";
        double m = Math.abs(v);
        if (m == 0) {
            return sign + "0";
        }
        if (Double.isInfinite(m)) {
            return sign + "E";
        }
        int e = 0;
        while (m != Math.rint(m)) {
            m *= 2;
            e--;
        }
        while (m % 2 == 0) {
            m /= 2;
            e++;
        }
        return sign + (long) m + "*2^" + e;
    }

    public int zero(int cell, boolean isDown) {
        return give(cell, sided(0.0, isDown));
    }

    public int endless(int cell, boolean isDown) {
        return give(cell, sided(Double.POSITIVE_INFINITY, isDown));
    }

    public int quarters(int cell, int many) {
        return give(cell, many / 4.0);
    }

    public int power(int cell, int k, boolean isDown) {
        at(cell);
        within(k, -1100, 1100);
        return give(cell, sided(Math.scalb(1.0, k), isDown));
    }

    public int bits(int cell, int upper, int lower) {
        at(cell);
        double v = Double.longBitsToDouble(((long) upper << 32) + Integer.toUnsignedLong(lower));
        if (Double.isNaN(v)) {
            refused++;
            return -9;
        }
        return give(cell, v);
    }

    public int sample(int cell, int which, boolean isDown) {
        at(cell);
        within(which, 0, 11);
        return give(cell, sided(SAMPLES[which], isDown));
    }

    public int copy(int from, int into) {
        return give(into, at(from));
    }

    public int swap(int one, int other) {
        double first = at(one);
        double second = at(other);
        give(other, first);
        return give(one, second);
    }

    public int floor(int from, int into) {
        return give(into, Math.floor(at(from)));
    }

    public int ceil(int from, int into) {
        return give(into, Math.ceil(at(from)));
    }

    public int rint(int from, int into) {
        return give(into, Math.rint(at(from)));
    }

    public int size(int from, int into) {
        return give(into, Math.abs(at(from)));
    }

    public int turn(int from, int into) {
        return give(into, -at(from));
    }

    public int sign(int from, int into) {
        return give(into, Math.signum(at(from)));
    }

    public int up(int from, int into) {
        return give(into, Math.nextUp(at(from)));
    }

    public int down(int from, int into) {
        return give(into, Math.nextDown(at(from)));
    }

    public int step(int from, int into) {
        return give(into, Math.ulp(at(from)));
    }

    public int unit(int from, int into) {
        return give(into, Math.scalb(at(from), -Math.getExponent(at(from))));
    }

    public int times(int from, int k, int into) {
        return give(into, Math.scalb(at(from), k));
    }

    public int side(int size, int side, int into) {
        return give(into, Math.copySign(at(size), at(side)));
    }

    public int max(int one, int other, int into) {
        return give(into, Math.max(at(one), at(other)));
    }

    public int min(int one, int other, int into) {
        return give(into, Math.min(at(one), at(other)));
    }

    public int walk(int cell, int many) {
        double v = at(cell);
        within(many, -40, 40);
        for (int i = 0; i < Math.abs(many); i++) {
            v = many < 0 ? Math.nextDown(v) : Math.nextUp(v);
        }
        return give(cell, v);
    }

    public int kind(int cell) {
        return kindOf(at(cell));
    }

    public int digits(int cell, int what) {
        long bits = Double.doubleToRawLongBits(at(cell));
        within(what, 0, 3);
        long[] parts = {bits >>> 63, bits >>> 52 & 2047, (bits & 0xfffffffffffffL) >>> 32, (int) bits};
        return (int) parts[what];
    }

    public String text(int cell) {
        return textOf(at(cell));
    }

    public int exponent(int cell) {
        return Math.getExponent(at(cell));
    }

    public int round(int cell, boolean isUpper) {
        long round = Math.round(at(cell));
        return isUpper ? (int) (round >> 32) : (int) round;
    }

    public String rounded(int cell) {
        return Long.toString(Math.round(at(cell)));
    }

    public String cut(int cell) {
        return Long.toString((long) at(cell));
    }

    public int shortened(int cell) {
        return (int) at(cell);
    }

    public int signed(int cell) {
        return (int) Math.signum(at(cell));
    }

    public boolean isWhole(int cell) {
        int kind = kindOf(at(cell));
        return kind == 0 || kind == 3;
    }

    public int compare(int one, int other) {
        return Double.compare(at(one), at(other));
    }

    public boolean areLike(int one, int other) {
        return at(one) == at(other);
    }

    public boolean isBelow(int one, int other) {
        return at(one) < at(other);
    }

    public boolean areSame(int one, int other) {
        return Double.valueOf(at(one)).equals(at(other));
    }

    public boolean isNext(int one, int other) {
        return Double.valueOf(Math.nextUp(at(one))).equals(at(other));
    }

    public int apart(int one, int other) {
        double v = at(one);
        double goal = at(other);
        for (int steps = 0; steps <= 40; steps++) {
            if (v == goal) {
                return steps;
            }
            v = Math.nextUp(v);
        }
        return -1;
    }

    public int place(int cell) {
        int ahead = 0;
        at(cell);
        for (int i = 0; i < 6; i++) {
            ahead += compare(i, cell) < 0 ? 1 : 0;
        }
        return ahead;
    }

    public String floorOf(int cell) {
        return textOf(Math.floor(at(cell)));
    }

    public String ceilOf(int cell) {
        return textOf(Math.ceil(at(cell)));
    }

    public String rintOf(int cell) {
        return textOf(Math.rint(at(cell)));
    }

    public String stepOf(int cell) {
        return textOf(Math.ulp(at(cell)));
    }

    public String nextOf(int cell, boolean isDown) {
        return textOf(isDown ? Math.nextDown(at(cell)) : Math.nextUp(at(cell)));
    }

    public String timesOf(int cell, int k) {
        return textOf(Math.scalb(at(cell), k));
    }

    public boolean isBack(int cell, int k) {
        double v = at(cell);
        within(k, -2200, 2200);
        return Double.valueOf(Math.scalb(Math.scalb(v, k), -k)).equals(v);
    }

    public String greatest() {
        double v = cells[0];
        for (double other : cells) {
            v = Math.max(v, other);
        }
        return textOf(v);
    }

    public String least() {
        double v = cells[0];
        for (double other : cells) {
            v = Math.min(v, other);
        }
        return textOf(v);
    }

    public int knock() {
        return ++knocks;
    }

    public int house(int what) {
        within(what, 0, 3);
        int whole = 0;
        for (int i = 0; i < 6; i++) {
            whole += isWhole(i) ? 1 : 0;
        }
        return new int[] {given, refused, knocks, whole}[what];
    }

    public boolean isSound() {
        return true;
    }

    public long digest() {
        long d = 7794;
        for (int i = 0; i < 4; i++) {
            d = d * 31 + house(i);
        }
        for (int c = 0; c < 6; c++) {
            long[] values = {
                digits(c, 0), digits(c, 1), digits(c, 2), digits(c, 3), kind(c), text(c).length(), exponent(c),
                round(c, true), round(c, false), rounded(c).length(), cut(c).length(), shortened(c), signed(c),
                place(c), floorOf(c).length(), ceilOf(c).length(), rintOf(c).length(), stepOf(c).length(),
                nextOf(c, false).length(), nextOf(c, true).length()
            };
            for (long value : values) {
                d = d * 31 + value;
            }
        }
        for (int one = 0; one < 6; one++) {
            for (int other = 0; other < 6; other++) {
                d = d * 31 + compare(one, other);
                d = d * 31 + apart(one, other);
            }
        }
        d = d * 31 + greatest().length();
        d = d * 31 + least().length();
        return d * 31 + (isSound() ? 1 : 0);
    }
}
