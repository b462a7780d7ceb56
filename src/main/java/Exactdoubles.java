/**
 * A board with six cells, each of which has a NUMBER as machines have them.
 * Words in capitals are those of DOC.md.
 */
public final class Exactdoubles {
    private static final int CELLS = 6;
    private static final int NONE = -1;
    private static final int REFUSED = -9;
    private static final int MOST_STEPS = 40;
    private static final int MOST_POWER = 1100;
    private static final int MOST_BACK = 2200;
    private static final int QUARTER_POWER = -2;
    private static final int DIGEST_START = 7794;

    private static final long[] SAMPLE_FACTORS = {
        1L, (1L << 52) - 1, 1L, (1L << 53) - 1, (1L << 53) - 1, (1L << 53) - 1,
        (1L << 53) - 1, (1L << 53) - 1, (1L << 53) - 1, (1L << 32) - 1, 5L, (1L << 52) + 1
    };
    private static final int[] SAMPLE_POWERS = {-1074, -1074, -1022, 971, -53, -54, -1, 0, 10, -1, -1, 0};

    private final long[] cells;
    private final Scribe scribe;
    private final Proof proof;
    private int given;
    private int refused;
    private int knocks;

    public Exactdoubles() {
        cells = new long[CELLS];
        scribe = new Scribe();
        proof = new Proof();
    }

    // ---- making

    public int zero(int cell, boolean isDown) throws IndexOutOfBoundsException {
        requireCell(cell);
        return give(cell, Form.withSide(0, isDown));
    }

    public int endless(int cell, boolean isDown) throws IndexOutOfBoundsException {
        requireCell(cell);
        return give(cell, Form.withSide(Form.ENDLESS, isDown));
    }

    public int quarters(int cell, int many) throws IndexOutOfBoundsException {
        requireCell(cell);
        // As a long, because -2^31 turned round is no int.
        long factor = Math.abs((long) many);
        return give(cell, Form.withSide(Scale.nearestTo(factor, QUARTER_POWER), many < 0));
    }

    public int power(int cell, int k, boolean isDown) throws IndexOutOfBoundsException, IllegalArgumentException {
        requireCell(cell);
        requireWithin(k, -MOST_POWER, MOST_POWER);
        return give(cell, Form.withSide(Scale.timesPower(Form.ONE, k), isDown));
    }

    public int bits(int cell, int upper, int lower) throws IndexOutOfBoundsException {
        requireCell(cell);
        long number = ((long) upper << 32) | (lower & Form.LOWER_HALF);
        if (!Form.isNumber(number)) {
            refused++;
            return REFUSED;
        }
        return give(cell, number);
    }

    public int sample(int cell, int which, boolean isDown) throws IndexOutOfBoundsException, IllegalArgumentException {
        requireCell(cell);
        requireWithin(which, 0, SAMPLE_FACTORS.length - 1);
        long size = Scale.nearestTo(SAMPLE_FACTORS[which], SAMPLE_POWERS[which]);
        return give(cell, Form.withSide(size, isDown));
    }

    public int copy(int from, int into) throws IndexOutOfBoundsException {
        requireBoth(from, into);
        return give(into, cells[from]);
    }

    public int swap(int one, int other) throws IndexOutOfBoundsException {
        requireBoth(one, other);
        long number = cells[one];
        int kind = give(one, cells[other]);
        give(other, number);
        return kind;
    }

    // ---- taking

    public int floor(int from, int into) throws IndexOutOfBoundsException {
        requireBoth(from, into);
        return give(into, Take.floorFrom(cells[from]));
    }

    public int ceil(int from, int into) throws IndexOutOfBoundsException {
        requireBoth(from, into);
        return give(into, Take.ceilFrom(cells[from]));
    }

    public int rint(int from, int into) throws IndexOutOfBoundsException {
        requireBoth(from, into);
        return give(into, Take.rintFrom(cells[from]));
    }

    public int size(int from, int into) throws IndexOutOfBoundsException {
        requireBoth(from, into);
        return give(into, Form.sizeIn(cells[from]));
    }

    public int turn(int from, int into) throws IndexOutOfBoundsException {
        requireBoth(from, into);
        return give(into, Form.turned(cells[from]));
    }

    public int sign(int from, int into) throws IndexOutOfBoundsException {
        requireBoth(from, into);
        return give(into, Take.signFrom(cells[from]));
    }

    public int up(int from, int into) throws IndexOutOfBoundsException {
        requireBoth(from, into);
        return give(into, Take.upFrom(cells[from]));
    }

    public int down(int from, int into) throws IndexOutOfBoundsException {
        requireBoth(from, into);
        return give(into, Take.downFrom(cells[from]));
    }

    public int step(int from, int into) throws IndexOutOfBoundsException {
        requireBoth(from, into);
        return give(into, Take.stepFrom(cells[from]));
    }

    public int unit(int from, int into) throws IndexOutOfBoundsException {
        requireBoth(from, into);
        return give(into, Scale.timesPower(cells[from], -Form.exponentIn(cells[from])));
    }

    public int times(int from, int k, int into) throws IndexOutOfBoundsException {
        requireBoth(from, into);
        return give(into, Scale.timesPower(cells[from], k));
    }

    public int side(int size, int side, int into) throws IndexOutOfBoundsException {
        requireBoth(size, side);
        requireCell(into);
        return give(into, Form.joined(cells[size], cells[side]));
    }

    public int max(int one, int other, int into) throws IndexOutOfBoundsException {
        requireBoth(one, other);
        requireCell(into);
        return give(into, Form.lastOf(cells[one], cells[other]));
    }

    public int min(int one, int other, int into) throws IndexOutOfBoundsException {
        requireBoth(one, other);
        requireCell(into);
        return give(into, Form.firstOf(cells[one], cells[other]));
    }

    public int walk(int cell, int many) throws IndexOutOfBoundsException, IllegalArgumentException {
        requireCell(cell);
        requireWithin(many, -MOST_STEPS, MOST_STEPS);
        return give(cell, Take.walkFrom(cells[cell], many));
    }

    // ---- asking

    public int kind(int cell) throws IndexOutOfBoundsException {
        requireCell(cell);
        return Form.kindIn(cells[cell]);
    }

    public int digits(int cell, int what) throws IndexOutOfBoundsException, IllegalArgumentException {
        requireCell(cell);
        requireWithin(what, 0, 3);
        return Form.digitsIn(cells[cell], what);
    }

    public String text(int cell) throws IndexOutOfBoundsException {
        requireCell(cell);
        return scribe.tellNumber(cells[cell]);
    }

    public int exponent(int cell) throws IndexOutOfBoundsException {
        requireCell(cell);
        return Form.exponentIn(cells[cell]);
    }

    public int round(int cell, boolean isUpper) throws IndexOutOfBoundsException {
        requireCell(cell);
        return halfOf(Whole.roundFrom(cells[cell]), isUpper);
    }

    public String rounded(int cell) throws IndexOutOfBoundsException {
        requireCell(cell);
        return scribe.tellWhole(Whole.roundFrom(cells[cell]));
    }

    public String cut(int cell) throws IndexOutOfBoundsException {
        requireCell(cell);
        return scribe.tellWhole(Whole.cutFrom(cells[cell]));
    }

    public int shortened(int cell) throws IndexOutOfBoundsException {
        requireCell(cell);
        return Whole.shortFrom(cells[cell]);
    }

    public int signed(int cell) throws IndexOutOfBoundsException {
        requireCell(cell);
        return signOf(cells[cell]);
    }

    public boolean isWhole(int cell) throws IndexOutOfBoundsException {
        requireCell(cell);
        return Form.isWholeOne(cells[cell]);
    }

    public int compare(int one, int other) throws IndexOutOfBoundsException {
        requireBoth(one, other);
        return orderOf(cells[one], cells[other]);
    }

    public boolean areLike(int one, int other) throws IndexOutOfBoundsException {
        requireBoth(one, other);
        return Form.rungIn(cells[one]) == Form.rungIn(cells[other]);
    }

    public boolean isBelow(int one, int other) throws IndexOutOfBoundsException {
        requireBoth(one, other);
        return Form.rungIn(cells[one]) < Form.rungIn(cells[other]);
    }

    public boolean areSame(int one, int other) throws IndexOutOfBoundsException {
        requireBoth(one, other);
        return cells[one] == cells[other];
    }

    public boolean isNext(int one, int other) throws IndexOutOfBoundsException {
        requireBoth(one, other);
        return Take.upFrom(cells[one]) == cells[other];
    }

    public int apart(int one, int other) throws IndexOutOfBoundsException {
        requireBoth(one, other);
        return stepsBetween(cells[one], cells[other]);
    }

    public int place(int cell) throws IndexOutOfBoundsException {
        requireCell(cell);
        return placeOf(cells[cell]);
    }

    public String floorOf(int cell) throws IndexOutOfBoundsException {
        requireCell(cell);
        return scribe.tellNumber(Take.floorFrom(cells[cell]));
    }

    public String ceilOf(int cell) throws IndexOutOfBoundsException {
        requireCell(cell);
        return scribe.tellNumber(Take.ceilFrom(cells[cell]));
    }

    public String rintOf(int cell) throws IndexOutOfBoundsException {
        requireCell(cell);
        return scribe.tellNumber(Take.rintFrom(cells[cell]));
    }

    public String stepOf(int cell) throws IndexOutOfBoundsException {
        requireCell(cell);
        return scribe.tellNumber(Take.stepFrom(cells[cell]));
    }

    public String nextOf(int cell, boolean isDown) throws IndexOutOfBoundsException {
        requireCell(cell);
        return scribe.tellNumber(isDown ? Take.downFrom(cells[cell]) : Take.upFrom(cells[cell]));
    }

    public String timesOf(int cell, int k) throws IndexOutOfBoundsException {
        requireCell(cell);
        return scribe.tellNumber(Scale.timesPower(cells[cell], k));
    }

    public boolean isBack(int cell, int k) throws IndexOutOfBoundsException, IllegalArgumentException {
        requireCell(cell);
        requireWithin(k, -MOST_BACK, MOST_BACK);
        return Scale.timesPower(Scale.timesPower(cells[cell], k), -k) == cells[cell];
    }

    public String greatest() {
        return scribe.tellNumber(lastOfAll());
    }

    public String least() {
        return scribe.tellNumber(firstOfAll());
    }

    // ---- the board

    public int knock() {
        knocks++;
        return knocks;
    }

    public int house(int what) throws IllegalArgumentException {
        requireWithin(what, 0, 3);
        return countOf(what);
    }

    public boolean isSound() {
        return proof.holdsFor(cells);
    }

    public long digest() {
        long sum = DIGEST_START;
        for (int what = 0; what <= 3; what++) {
            sum = mixed(sum, countOf(what));
        }
        for (int cell = 0; cell < CELLS; cell++) {
            sum = mixedAnswers(sum, cells[cell]);
            sum = mixedTexts(sum, cells[cell]);
        }
        for (int one = 0; one < CELLS; one++) {
            for (int other = 0; other < CELLS; other++) {
                sum = mixed(sum, orderOf(cells[one], cells[other]));
                sum = mixed(sum, stepsBetween(cells[one], cells[other]));
            }
        }
        sum = mixed(sum, scribe.countNumber(lastOfAll()));
        sum = mixed(sum, scribe.countNumber(firstOfAll()));
        return mixed(sum, proof.holdsFor(cells) ? 1 : 0);
    }

    private static long mixed(long sum, long value) {
        return sum * 31 + value;
    }

    private long mixedAnswers(long start, long number) {
        long sum = start;
        for (int what = 0; what <= 3; what++) {
            sum = mixed(sum, Form.digitsIn(number, what));
        }
        sum = mixed(sum, Form.kindIn(number));
        sum = mixed(sum, scribe.countNumber(number));
        sum = mixed(sum, Form.exponentIn(number));
        long round = Whole.roundFrom(number);
        sum = mixed(sum, halfOf(round, true));
        sum = mixed(sum, halfOf(round, false));
        sum = mixed(sum, scribe.countWhole(round));
        sum = mixed(sum, scribe.countWhole(Whole.cutFrom(number)));
        sum = mixed(sum, Whole.shortFrom(number));
        sum = mixed(sum, signOf(number));
        return mixed(sum, placeOf(number));
    }

    private long mixedTexts(long start, long number) {
        long sum = mixed(start, scribe.countNumber(Take.floorFrom(number)));
        sum = mixed(sum, scribe.countNumber(Take.ceilFrom(number)));
        sum = mixed(sum, scribe.countNumber(Take.rintFrom(number)));
        sum = mixed(sum, scribe.countNumber(Take.stepFrom(number)));
        sum = mixed(sum, scribe.countNumber(Take.upFrom(number)));
        return mixed(sum, scribe.countNumber(Take.downFrom(number)));
    }

    // ---- what the calls share

    private static void requireCell(int cell) {
        if (cell < 0 || cell >= CELLS) {
            throw new IndexOutOfBoundsException("there is no such cell");
        }
    }

    private static void requireBoth(int one, int other) {
        requireCell(one);
        requireCell(other);
    }

    private static void requireWithin(int number, int least, int most) {
        if (number < least || number > most) {
            throw new IllegalArgumentException("a number is out of its bounds");
        }
    }

    private int give(int cell, long number) {
        cells[cell] = number;
        given++;
        return Form.kindIn(number);
    }

    private int countOf(int what) {
        switch (what) {
            case 0:
                return given;
            case 1:
                return refused;
            case 2:
                return knocks;
            default:
                return countWholeOnes();
        }
    }

    private int countWholeOnes() {
        int count = 0;
        for (int cell = 0; cell < CELLS; cell++) {
            if (Form.isWholeOne(cells[cell])) {
                count++;
            }
        }
        return count;
    }

    private static int halfOf(long whole, boolean isUpper) {
        return isUpper ? (int) (whole >> 32) : (int) whole;
    }

    private static int signOf(long number) {
        return Long.compare(Form.rungIn(number), 0L);
    }

    private static int orderOf(long one, long other) {
        return Long.compare(Form.rankIn(one), Form.rankIn(other));
    }

    private static int stepsBetween(long one, long other) {
        long from = Form.rungIn(one);
        long to = Form.rungIn(other);
        long steps = to - from;
        // Two far RUNGS may have a difference that wraps around; it is below 0 then.
        if (to < from || steps < 0 || steps > MOST_STEPS) {
            return NONE;
        }
        return (int) steps;
    }

    private int placeOf(long number) {
        int ahead = 0;
        for (int cell = 0; cell < CELLS; cell++) {
            if (Form.rankIn(cells[cell]) < Form.rankIn(number)) {
                ahead++;
            }
        }
        return ahead;
    }

    private long lastOfAll() {
        long last = cells[0];
        for (int cell = 1; cell < CELLS; cell++) {
            last = Form.lastOf(last, cells[cell]);
        }
        return last;
    }

    private long firstOfAll() {
        long first = cells[0];
        for (int cell = 1; cell < CELLS; cell++) {
            first = Form.firstOf(first, cells[cell]);
        }
        return first;
    }

    /**
     * How a NUMBER lies in a long: its SIDE in the first binary digit, HIGH in the next eleven, LOW in the last 52.
     * So without the SIDE it is its own RUNG, and SIZES are in order as these longs are.
     */
    private static final class Form {
        static final int LOW_LENGTH = 52;
        static final long FIRST_DIGIT = 1L << LOW_LENGTH;
        static final long SIDE_DIGIT = 1L << 63;
        static final int ENDLESS_HIGH = 2047;
        static final long ENDLESS = (long) ENDLESS_HIGH << LOW_LENGTH;
        static final int ONE_HIGH = 1023;
        static final long ONE = (long) ONE_HIGH << LOW_LENGTH;
        static final long LOWER_HALF = (1L << 32) - 1;
        static final int LEAST_POWER = -1074;
        /** More than a factor has, yet few enough that 1L shifted so far is above 0. */
        static final int MOST_BEHIND = 60;

        private Form() {
        }

        static long withSide(long size, boolean isDown) {
            return isDown ? size | SIDE_DIGIT : size;
        }

        static long joined(long ofSize, long ofSide) {
            return sizeIn(ofSize) | (ofSide & SIDE_DIGIT);
        }

        static long turned(long number) {
            return number ^ SIDE_DIGIT;
        }

        static long sizeIn(long number) {
            return number & ~SIDE_DIGIT;
        }

        static boolean isDownOne(long number) {
            return number < 0;
        }

        static int highIn(long number) {
            return (int) (number >>> LOW_LENGTH) & ENDLESS_HIGH;
        }

        static long lowIn(long number) {
            return number & (FIRST_DIGIT - 1);
        }

        static int digitsIn(long number, int what) {
            switch (what) {
                case 0:
                    return isDownOne(number) ? 1 : 0;
                case 1:
                    return highIn(number);
                case 2:
                    return (int) (lowIn(number) >>> 32);
                default:
                    return (int) lowIn(number);
            }
        }

        static int exponentIn(long number) {
            return highIn(number) - ONE_HIGH;
        }

        static boolean isNumber(long digits) {
            return sizeIn(digits) <= ENDLESS;
        }

        static boolean isEndlessOne(long number) {
            return sizeIn(number) == ENDLESS;
        }

        static boolean isWholeOne(long number) {
            return restIn(number) == 0 && !isEndlessOne(number);
        }

        static int kindIn(long number) {
            if (sizeIn(number) == 0) {
                return 0;
            }
            if (highIn(number) == 0) {
                return 1;
            }
            if (isEndlessOne(number)) {
                return 4;
            }
            return restIn(number) == 0 ? 3 : 2;
        }

        static long rungIn(long number) {
            return isDownOne(number) ? -sizeIn(number) : sizeIn(number);
        }

        /** The RUNG, but those of the SIDE 1 each one lower, so that the two of the VALUE 0 are in ORDER too. */
        static long rankIn(long number) {
            return isDownOne(number) ? -1 - sizeIn(number) : sizeIn(number);
        }

        static long lastOf(long one, long other) {
            return rankIn(one) >= rankIn(other) ? one : other;
        }

        static long firstOf(long one, long other) {
            return rankIn(one) <= rankIn(other) ? one : other;
        }

        /** The m of the SIZE m * 2^e; of ENDLESS it means nothing. */
        static long factorIn(long number) {
            return highIn(number) == 0 ? lowIn(number) : lowIn(number) + FIRST_DIGIT;
        }

        /** The e of the SIZE m * 2^e; of ENDLESS one that is greater than all others. */
        static int powerIn(long number) {
            return Math.max(highIn(number), 1) + LEAST_POWER - 1;
        }

        /**
         * How many digits of the factor are behind the point, bounded: beyond the bound none is ahead of it.
         * A HIGH of 0 counts as 1 elsewhere; here both are beyond the bound.
         */
        static int behindIn(long number) {
            return Math.max(0, Math.min(MOST_BEHIND, ONE_HIGH + LOW_LENGTH - highIn(number)));
        }

        static long aheadIn(long number) {
            return factorIn(number) >>> behindIn(number);
        }

        /** What the factor has behind the point; 0 of what is WHOLE, and of ENDLESS. */
        static long restIn(long number) {
            return factorIn(number) & ((1L << behindIn(number)) - 1);
        }
    }

    /** Sizes that are told as a factor and a power of two. */
    private static final class Scale {
        /** From this on each SIZE but 0 becomes ENDLESS, and 0 below as much; the bound keeps sums within an int. */
        private static final int FAR = 2200;

        private Scale() {
        }

        static long timesPower(long number, int k) {
            if (Form.sizeIn(number) == 0 || Form.isEndlessOne(number)) {
                return number;
            }
            int bounded = Math.max(-FAR, Math.min(FAR, k));
            return Form.joined(nearestTo(Form.factorIn(number), Form.powerIn(number) + bounded), number);
        }

        /** The SIZE that is NEAREST to factor * 2^power, with a factor from 0 to 2^53 - 1. */
        static long nearestTo(long factor, int power) {
            if (factor == 0) {
                return 0;
            }
            long full = factor;
            int high = power - Form.LEAST_POWER + 1;
            for (int shift = 32; shift > 0; shift >>= 1) {
                if (full >>> (Form.LOW_LENGTH + 1 - shift) == 0) {
                    full <<= shift;
                    high -= shift;
                }
            }
            if (high < 1) {
                // One that is rounded up to 2^52 carries into HIGH, as it should.
                return halvedOften(full, Math.min(Form.MOST_BEHIND, 1 - high));
            }
            if (high >= Form.ENDLESS_HIGH) {
                return Form.ENDLESS;
            }
            return ((long) high << Form.LOW_LENGTH) + (full - Form.FIRST_DIGIT);
        }

        /** The whole number that lies nearest to factor / 2^often, of two the even one; often is 1 to 60. */
        static long halvedOften(long factor, int often) {
            long whole = factor >>> often;
            long rest = factor & ((1L << often) - 1);
            long half = 1L << (often - 1);
            boolean isUp = rest > half || (rest == half && (whole & 1) == 1);
            return isUp ? whole + 1 : whole;
        }
    }

    /** What is made of one NUMBER and is a NUMBER again. */
    private static final class Take {
        private Take() {
        }

        static long floorFrom(long number) {
            if (Form.restIn(number) == 0) {
                return number;
            }
            return wholeLike(number, Form.aheadIn(number) + (Form.isDownOne(number) ? 1 : 0));
        }

        static long ceilFrom(long number) {
            if (Form.restIn(number) == 0) {
                return number;
            }
            return wholeLike(number, Form.aheadIn(number) + (Form.isDownOne(number) ? 0 : 1));
        }

        static long rintFrom(long number) {
            if (Form.restIn(number) == 0) {
                return number;
            }
            return wholeLike(number, Scale.halvedOften(Form.factorIn(number), Form.behindIn(number)));
        }

        /** Also a whole 0 keeps the SIDE of the NUMBER that it is made of. */
        private static long wholeLike(long number, long whole) {
            return Form.joined(Scale.nearestTo(whole, 0), number);
        }

        static long signFrom(long number) {
            return Form.sizeIn(number) == 0 ? number : Form.joined(Form.ONE, number);
        }

        static long upFrom(long number) {
            if (number == Form.ENDLESS) {
                return number;
            }
            if (Form.sizeIn(number) == 0) {
                return 1;
            }
            return Form.isDownOne(number) ? number - 1 : number + 1;
        }

        static long downFrom(long number) {
            if (number == (Form.ENDLESS | Form.SIDE_DIGIT)) {
                return number;
            }
            if (Form.sizeIn(number) == 0) {
                return Form.SIDE_DIGIT | 1;
            }
            return Form.isDownOne(number) ? number + 1 : number - 1;
        }

        static long walkFrom(long start, int many) {
            long number = start;
            for (int done = 0; done < many; done++) {
                number = upFrom(number);
            }
            for (int done = 0; done > many; done--) {
                number = downFrom(number);
            }
            return number;
        }

        static long stepFrom(long number) {
            if (Form.isEndlessOne(number)) {
                return Form.ENDLESS;
            }
            return Scale.nearestTo(1, Form.powerIn(number));
        }
    }

    /** The whole numbers that are told of a NUMBER. */
    private static final class Whole {
        private static final long MOST = ~(1L << 63);
        private static final long LEAST = 1L << 63;
        private static final long MOST_SHORT = (1L << 31) - 1;
        private static final long LEAST_SHORT = -(1L << 31);
        /** From this power on a factor, which has 53 digits then, makes 2^63 at least. */
        private static final int TOO_FAR = 11;

        private Whole() {
        }

        static long cutFrom(long number) {
            int power = Form.powerIn(number);
            if (power >= TOO_FAR) {
                return Form.isDownOne(number) ? LEAST : MOST;
            }
            long factor = Form.factorIn(number);
            long whole = power > 0 ? factor << power : factor >>> Form.behindIn(number);
            return Form.isDownOne(number) ? -whole : whole;
        }

        static long roundFrom(long number) {
            int behind = Form.behindIn(number);
            if (behind == 0) {
                return cutFrom(number);
            }
            long rest = Form.restIn(number);
            long half = 1L << (behind - 1);
            if (Form.isDownOne(number)) {
                return rest > half ? cutFrom(number) - 1 : cutFrom(number);
            }
            return rest >= half ? cutFrom(number) + 1 : cutFrom(number);
        }

        static int shortFrom(long number) {
            return (int) Math.max(LEAST_SHORT, Math.min(MOST_SHORT, cutFrom(number)));
        }
    }

    /** Writes texts, always into the same row of signs, because what a run makes is counted. */
    private static final class Scribe {
        /** 2^63 has nineteen. */
        private static final int MOST_FIGURES = 19;

        private final StringBuilder signs;
        private final char[] figures;

        Scribe() {
            signs = new StringBuilder();
            figures = new char[MOST_FIGURES];
        }

        String tellNumber(long number) {
            writeNumber(number);
            return signs.toString();
        }

        int countNumber(long number) {
            writeNumber(number);
            return signs.length();
        }

        String tellWhole(long whole) {
            writeWhole(whole);
            return signs.toString();
        }

        int countWhole(long whole) {
            writeWhole(whole);
            return signs.length();
        }

        private void writeWhole(long whole) {
            signs.setLength(0);
            appendWhole(whole);
        }

        private void writeNumber(long number) {
            signs.setLength(0);
            if (Form.isDownOne(number)) {
                signs.append('-');
            }
            if (Form.sizeIn(number) == 0) {
                signs.append('0');
            } else if (Form.isEndlessOne(number)) {
                signs.append('E');
            } else {
                appendSize(Form.factorIn(number), Form.powerIn(number));
            }
        }

        private void appendSize(long factor, int power) {
            long odd = factor;
            int oddPower = power;
            for (int shift = 32; shift > 0; shift >>= 1) {
                if ((odd & ((1L << shift) - 1)) == 0) {
                    odd >>>= shift;
                    oddPower += shift;
                }
            }
            appendWhole(odd);
            signs.append("*2^");
            signs.append(oddPower);
        }

        private void appendWhole(long whole) {
            if (whole < 0) {
                signs.append('-');
            }
            // Counted below 0, because -2^63 turned round is no long.
            long rest = whole < 0 ? whole : -whole;
            int first = MOST_FIGURES;
            do {
                first--;
                figures[first] = (char) ('0' - rest % 10);
                rest /= 10;
            } while (rest != 0 && first > 0);
            for (int at = first; at < MOST_FIGURES; at++) {
                signs.append(figures[at]);
            }
        }
    }

    /** Looks whether all that isSound() names is so. */
    private static final class Proof {
        private static final int TAKEN = 8;
        private static final int ROUND_ROW = 7;
        private static final int PROOF_POWER = 5;

        /** A row for each thing taken, a column for each CELL: the RUNG of what is taken, for it stands for the VALUE. */
        private final long[][] taken;

        Proof() {
            taken = new long[TAKEN][CELLS];
        }

        boolean holdsFor(long[] numbers) {
            if (numbers.length != CELLS) {
                return false;
            }
            for (int cell = 0; cell < CELLS; cell++) {
                long number = numbers[cell];
                if (!areWholesRight(number) || !isRintRight(number)
                    || !areNextRight(number) || !arePartsRight(number)) {
                    return false;
                }
                fillColumn(cell, number);
            }
            for (int one = 0; one < CELLS; one++) {
                for (int other = 0; other < CELLS; other++) {
                    if (!holdsForTwo(one, numbers[one], other, numbers[other])) {
                        return false;
                    }
                }
            }
            return true;
        }

        private static boolean areWholesRight(long number) {
            long floor = Take.floorFrom(number);
            long ceil = Take.ceilFrom(number);
            long turned = Form.turned(number);
            return Form.rungIn(floor) <= Form.rungIn(number)
                && Form.rungIn(ceil) >= Form.rungIn(number)
                && floor == Form.turned(Take.ceilFrom(turned))
                && ceil == Form.turned(Take.floorFrom(turned));
        }

        private static boolean isRintRight(long number) {
            long floor = Take.floorFrom(number);
            long ceil = Take.ceilFrom(number);
            long rint = Take.rintFrom(number);
            if (rint != floor && rint != ceil) {
                return false;
            }
            if (floor == ceil) {
                return true;
            }
            // The one towards 0 is as far as the rest, the other one as far as the rest is from a whole.
            long towards = Form.isDownOne(number) ? ceil : floor;
            long rest = Form.restIn(number);
            long other = (1L << Form.behindIn(number)) - rest;
            return rint == towards ? rest <= other : other <= rest;
        }

        private static boolean areNextRight(long number) {
            long up = Take.upFrom(number);
            long down = Take.downFrom(number);
            long turned = Form.turned(number);
            boolean isLedBack = Form.isEndlessOne(number)
                || Form.rungIn(Take.downFrom(up)) == Form.rungIn(number)
                && Form.rungIn(Take.upFrom(down)) == Form.rungIn(number);
            return isLedBack
                && up == Form.turned(Take.downFrom(turned))
                && down == Form.turned(Take.upFrom(turned));
        }

        private static boolean arePartsRight(long number) {
            int upper = (Form.digitsIn(number, 0) << 31) | (Form.digitsIn(number, 1) << 20) | Form.digitsIn(number, 2);
            long again = ((long) upper << 32) | (Form.digitsIn(number, 3) & Form.LOWER_HALF);
            return again == number
                && Form.joined(Form.sizeIn(number), number) == number
                && Take.stepFrom(Form.turned(number)) == Take.stepFrom(number);
        }

        private void fillColumn(int cell, long number) {
            taken[0][cell] = Form.rungIn(Take.floorFrom(number));
            taken[1][cell] = Form.rungIn(Take.ceilFrom(number));
            taken[2][cell] = Form.rungIn(Take.rintFrom(number));
            taken[3][cell] = Form.rungIn(Take.upFrom(number));
            taken[4][cell] = Form.rungIn(Take.downFrom(number));
            taken[5][cell] = Form.rungIn(Take.signFrom(number));
            taken[6][cell] = Form.rungIn(Scale.timesPower(number, PROOF_POWER));
            taken[ROUND_ROW][cell] = Whole.roundFrom(number);
        }

        private boolean holdsForTwo(int one, long first, int other, long second) {
            long last = Form.lastOf(first, second);
            long least = Form.firstOf(first, second);
            boolean areBoth = last == first && least == second || last == second && least == first;
            return areBoth && (Form.rankIn(first) > Form.rankIn(second) || isNoneBehind(one, other));
        }

        private boolean isNoneBehind(int one, int other) {
            for (int row = 0; row < TAKEN; row++) {
                if (taken[row][one] > taken[row][other]) {
                    return false;
                }
            }
            return true;
        }
    }
}
