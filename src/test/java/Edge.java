/**
 * A NUMBER of the SIDE 0 that a sentence of the document names as a bound, or that lies beside one, with all that
 * sections 1 and 2 say of it. What is due of it turned round follows from that, but where two values are written.
 */
final class Edge {
    private static final double LEAST = Boards.LEAST;
    private static final double NORMAL = Boards.NORMAL;
    private static final double MOST = Boards.MOST;
    private static final double ENDLESS = Boards.ENDLESS;
    private static final long MOST_LONG = Long.MAX_VALUE;
    private static final long LEAST_LONG = Long.MIN_VALUE;
    private static final int MOST_INT = Integer.MAX_VALUE;
    private static final int LEAST_INT = Integer.MIN_VALUE;

    final double number;
    final int kind;
    final String text;
    int high;
    long low;
    double floor;
    double ceil;
    double rint;
    long round;
    long roundTurned;
    long cut;
    long cutTurned;
    int shortOne;
    int shortTurned;
    double up;
    double down;
    double step;
    double unit;

    private Edge(double number, int kind, String text) {
        this.number = number;
        this.kind = kind;
        this.text = text;
    }

    private static Edge edge(double number, int kind, String text) {
        return new Edge(number, kind, text);
    }

    private Edge digits(int dueHigh, long dueLow) {
        high = dueHigh;
        low = dueLow;
        return this;
    }

    private Edge wholes(double dueFloor, double dueCeil, double dueRint) {
        floor = dueFloor;
        ceil = dueCeil;
        rint = dueRint;
        return this;
    }

    private Edge rounds(long due, long dueTurned) {
        round = due;
        roundTurned = dueTurned;
        return this;
    }

    private Edge cuts(long due, long dueTurned) {
        cut = due;
        cutTurned = dueTurned;
        return this;
    }

    private Edge shorts(int due, int dueTurned) {
        shortOne = due;
        shortTurned = dueTurned;
        return this;
    }

    private Edge next(double dueUp, double dueDown, double dueStep) {
        up = dueUp;
        down = dueDown;
        step = dueStep;
        return this;
    }

    private Edge unit(double due) {
        unit = due;
        return this;
    }

    /** A size below 1/2 has FLOOR 0, CEIL 1, and all others 0. */
    private Edge small() {
        return wholes(0, 1, 0).rounds(0, 0).cuts(0, 0).shorts(0, 0);
    }

    /** A whole one within an int is its own FLOOR, CEIL, RINT, ROUND, CUT and SHORT. */
    private Edge whole(int itself) {
        return wholes(number, number, number).rounds(itself, -itself).cuts(itself, -itself).shorts(itself, -itself);
    }

    /** A whole one beyond all ints, yet within a long. */
    private Edge wholeLong(long itself) {
        return wholes(number, number, number).rounds(itself, -itself).cuts(itself, -itself).shorts(MOST_INT, LEAST_INT);
    }

    /** From 2^63 on ROUND, CUT and SHORT are their bounds. */
    private Edge beyondLongs() {
        return wholes(number, number, number).rounds(MOST_LONG, LEAST_LONG).cuts(MOST_LONG, LEAST_LONG)
            .shorts(MOST_INT, LEAST_INT);
    }

    boolean isWhole() {
        return kind == 0 || kind == 3;
    }

    @Override
    public String toString() {
        return text;
    }

    /** By the ORDER, the least one first. */
    static Edge[] all() {
        Edge[][] parts = {aroundNothing(), aroundHalf(), aroundOne(), aroundInts(), aroundHalves(), aroundLongs(), aroundEndless()};
        int length = 0;
        for (Edge[] part : parts) {
            length += part.length;
        }
        Edge[] all = new Edge[length];
        int at = 0;
        for (Edge[] part : parts) {
            System.arraycopy(part, 0, all, at, part.length);
            at += part.length;
        }
        return all;
    }

    private static Edge[] aroundNothing() {
        return new Edge[] {
            edge(0, 0, "0").digits(0, 0).whole(0).next(LEAST, -LEAST, LEAST).unit(0),
            edge(LEAST, 1, "1*2^-1074").digits(0, 1).small().next(2 * LEAST, 0, LEAST).unit(0x1p-51),
            edge(2 * LEAST, 1, "1*2^-1073").digits(0, 2).small().next(3 * LEAST, LEAST, LEAST).unit(0x1p-50),
            edge(NORMAL - 2 * LEAST, 1, "2251799813685247*2^-1073").digits(0, (1L << 52) - 2).small()
                .next(NORMAL - LEAST, NORMAL - 3 * LEAST, LEAST).unit(2 - 0x1p-50),
            edge(NORMAL - LEAST, 1, "4503599627370495*2^-1074").digits(0, (1L << 52) - 1).small()
                .next(NORMAL, NORMAL - 2 * LEAST, LEAST).unit(2 - 0x1p-51),
            edge(NORMAL, 2, "1*2^-1022").digits(1, 0).small().next(NORMAL + LEAST, NORMAL - LEAST, LEAST).unit(1),
            edge(NORMAL + LEAST, 2, "4503599627370497*2^-1074").digits(1, 1).small()
                .next(NORMAL + 2 * LEAST, NORMAL, LEAST).unit(1 + 0x1p-52),
            edge(2 * NORMAL - LEAST, 2, "9007199254740991*2^-1074").digits(1, (1L << 52) - 1).small()
                .next(2 * NORMAL, 2 * NORMAL - 2 * LEAST, LEAST).unit(2 - 0x1p-52),
            edge(2 * NORMAL, 2, "1*2^-1021").digits(2, 0).small()
                .next(2 * NORMAL + 2 * LEAST, 2 * NORMAL - LEAST, 2 * LEAST).unit(1),
        };
    }

    private static Edge[] aroundHalf() {
        return new Edge[] {
            edge(0.5 - 0x1p-53, 2, "4503599627370495*2^-53").digits(1021, (1L << 52) - 2).small()
                .next(0.5 - 0x1p-54, 0.5 - 0x1.8p-53, 0x1p-54).unit(2 - 0x1p-51),
            edge(0.5 - 0x1p-54, 2, "9007199254740991*2^-54").digits(1021, (1L << 52) - 1).small()
                .next(0.5, 0.5 - 0x1p-53, 0x1p-54).unit(2 - 0x1p-52),
            edge(0.5, 2, "1*2^-1").digits(1022, 0).wholes(0, 1, 0).rounds(1, 0)
                .next(0.5 + 0x1p-53, 0.5 - 0x1p-54, 0x1p-53).unit(1),
            edge(0.5 + 0x1p-53, 2, "4503599627370497*2^-53").digits(1022, 1).wholes(0, 1, 1).rounds(1, -1)
                .next(0.5 + 0x1p-52, 0.5, 0x1p-53).unit(1 + 0x1p-52),
        };
    }

    private static Edge[] aroundOne() {
        return new Edge[] {
            edge(1 - 0x1p-53, 2, "9007199254740991*2^-53").digits(1022, (1L << 52) - 1).wholes(0, 1, 1).rounds(1, -1)
                .next(1, 1 - 0x1p-52, 0x1p-53).unit(2 - 0x1p-52),
            edge(1, 3, "1*2^0").digits(1023, 0).whole(1).next(1 + 0x1p-52, 1 - 0x1p-53, 0x1p-52).unit(1),
            edge(1 + 0x1p-52, 2, "4503599627370497*2^-52").digits(1023, 1).wholes(1, 2, 1).rounds(1, -1).cuts(1, -1).shorts(1, -1)
                .next(1 + 0x1p-51, 1, 0x1p-52).unit(1 + 0x1p-52),
            edge(1.5 - 0x1p-52, 2, "6755399441055743*2^-52").digits(1023, (1L << 51) - 1).wholes(1, 2, 1).rounds(1, -1)
                .cuts(1, -1).shorts(1, -1).next(1.5, 1.5 - 0x1p-51, 0x1p-52).unit(1.5 - 0x1p-52),
            edge(1.5, 2, "3*2^-1").digits(1023, 1L << 51).wholes(1, 2, 2).rounds(2, -1).cuts(1, -1).shorts(1, -1)
                .next(1.5 + 0x1p-52, 1.5 - 0x1p-52, 0x1p-52).unit(1.5),
            edge(1.5 + 0x1p-52, 2, "6755399441055745*2^-52").digits(1023, (1L << 51) + 1).wholes(1, 2, 2).rounds(2, -2)
                .cuts(1, -1).shorts(1, -1).next(1.5 + 0x1p-51, 1.5, 0x1p-52).unit(1.5 + 0x1p-52),
            edge(2 - 0x1p-52, 2, "9007199254740991*2^-52").digits(1023, (1L << 52) - 1).wholes(1, 2, 2).rounds(2, -2)
                .cuts(1, -1).shorts(1, -1).next(2, 2 - 0x1p-51, 0x1p-52).unit(2 - 0x1p-52),
            edge(2, 3, "1*2^1").digits(1024, 0).whole(2).next(2 + 0x1p-51, 2 - 0x1p-52, 0x1p-51).unit(1),
            edge(2.5 - 0x1p-51, 2, "5629499534213119*2^-51").digits(1024, (1L << 50) - 1).wholes(2, 3, 2).rounds(2, -2)
                .cuts(2, -2).shorts(2, -2).next(2.5, 2.5 - 0x1p-50, 0x1p-51).unit(1.25 - 0x1p-52),
            edge(2.5, 2, "5*2^-1").digits(1024, 1L << 50).wholes(2, 3, 2).rounds(3, -2).cuts(2, -2).shorts(2, -2)
                .next(2.5 + 0x1p-51, 2.5 - 0x1p-51, 0x1p-51).unit(1.25),
            edge(2.5 + 0x1p-51, 2, "5629499534213121*2^-51").digits(1024, (1L << 50) + 1).wholes(2, 3, 3).rounds(3, -3)
                .cuts(2, -2).shorts(2, -2).next(2.5 + 0x1p-50, 2.5, 0x1p-51).unit(1.25 + 0x1p-52),
            edge(3.5, 2, "7*2^-1").digits(1024, 3L << 50).wholes(3, 4, 4).rounds(4, -3).cuts(3, -3).shorts(3, -3)
                .next(3.5 + 0x1p-51, 3.5 - 0x1p-51, 0x1p-51).unit(1.75),
        };
    }

    private static Edge[] aroundInts() {
        return new Edge[] {
            edge(0x1p31 - 1.5, 2, "4294967293*2^-1").digits(1053, (1L << 52) - (3L << 21))
                .wholes(0x1p31 - 2, 0x1p31 - 1, 0x1p31 - 2).rounds((1L << 31) - 1, 2 - (1L << 31)).cuts((1L << 31) - 2, 2 - (1L << 31))
                .shorts(MOST_INT - 1, LEAST_INT + 2).next(0x1p31 - 1.5 + 0x1p-22, 0x1p31 - 1.5 - 0x1p-22, 0x1p-22)
                .unit(2 - 0x3p-31),
            edge(0x1p31 - 1, 3, "2147483647*2^0").digits(1053, (1L << 52) - (1L << 22)).whole(MOST_INT)
                .next(0x1p31 - 1 + 0x1p-22, 0x1p31 - 1 - 0x1p-22, 0x1p-22).unit(2 - 0x1p-30),
            edge(0x1p31 - 0.5, 2, "4294967295*2^-1").digits(1053, (1L << 52) - (1L << 21))
                .wholes(0x1p31 - 1, 0x1p31, 0x1p31).rounds(1L << 31, 1 - (1L << 31)).cuts((1L << 31) - 1, 1 - (1L << 31))
                .shorts(MOST_INT, LEAST_INT + 1).next(0x1p31 - 0.5 + 0x1p-22, 0x1p31 - 0.5 - 0x1p-22, 0x1p-22)
                .unit(2 - 0x1p-31),
            edge(0x1p31, 3, "1*2^31").digits(1054, 0).wholeLong(1L << 31)
                .next(0x1p31 + 0x1p-21, 0x1p31 - 0x1p-22, 0x1p-21).unit(1),
            edge(0x1p31 + 0.5, 2, "4294967297*2^-1").digits(1054, 1L << 20).wholes(0x1p31, 0x1p31 + 1, 0x1p31)
                .rounds((1L << 31) + 1, -(1L << 31)).cuts(1L << 31, -(1L << 31)).shorts(MOST_INT, LEAST_INT)
                .next(0x1p31 + 0.5 + 0x1p-21, 0x1p31 + 0.5 - 0x1p-21, 0x1p-21).unit(1 + 0x1p-32),
            edge(0x1p31 + 1, 3, "2147483649*2^0").digits(1054, 1L << 21).wholeLong((1L << 31) + 1)
                .next(0x1p31 + 1 + 0x1p-21, 0x1p31 + 1 - 0x1p-21, 0x1p-21).unit(1 + 0x1p-31),
            edge(0x1p32 - 1, 3, "4294967295*2^0").digits(1054, (1L << 52) - (1L << 21)).wholeLong((1L << 32) - 1)
                .next(0x1p32 - 1 + 0x1p-21, 0x1p32 - 1 - 0x1p-21, 0x1p-21).unit(2 - 0x1p-31),
            edge(0x1p32, 3, "1*2^32").digits(1055, 0).wholeLong(1L << 32)
                .next(0x1p32 + 0x1p-20, 0x1p32 - 0x1p-21, 0x1p-20).unit(1),
        };
    }

    /** The last ones that are not whole. */
    private static Edge[] aroundHalves() {
        return new Edge[] {
            edge(0x1p51 + 0.5, 2, "4503599627370497*2^-1").digits(1074, 1).wholes(0x1p51, 0x1p51 + 1, 0x1p51)
                .rounds((1L << 51) + 1, -(1L << 51)).cuts(1L << 51, -(1L << 51)).shorts(MOST_INT, LEAST_INT)
                .next(0x1p51 + 1, 0x1p51, 0.5).unit(1 + 0x1p-52),
            edge(0x1p52 - 1.5, 2, "9007199254740989*2^-1").digits(1074, (1L << 52) - 3)
                .wholes(0x1p52 - 2, 0x1p52 - 1, 0x1p52 - 2).rounds((1L << 52) - 1, 2 - (1L << 52)).cuts((1L << 52) - 2, 2 - (1L << 52))
                .shorts(MOST_INT, LEAST_INT).next(0x1p52 - 1, 0x1p52 - 2, 0.5).unit(2 - 0x3p-52),
            edge(0x1p52 - 1, 3, "4503599627370495*2^0").digits(1074, (1L << 52) - 2).wholeLong((1L << 52) - 1)
                .next(0x1p52 - 0.5, 0x1p52 - 1.5, 0.5).unit(2 - 0x1p-51),
            edge(0x1p52 - 0.5, 2, "9007199254740991*2^-1").digits(1074, (1L << 52) - 1)
                .wholes(0x1p52 - 1, 0x1p52, 0x1p52).rounds(1L << 52, 1 - (1L << 52)).cuts((1L << 52) - 1, 1 - (1L << 52))
                .shorts(MOST_INT, LEAST_INT).next(0x1p52, 0x1p52 - 1, 0.5).unit(2 - 0x1p-52),
            edge(0x1p52, 3, "1*2^52").digits(1075, 0).wholeLong(1L << 52).next(0x1p52 + 1, 0x1p52 - 0.5, 1).unit(1),
            edge(0x1p52 + 1, 3, "4503599627370497*2^0").digits(1075, 1).wholeLong((1L << 52) + 1)
                .next(0x1p52 + 2, 0x1p52, 1).unit(1 + 0x1p-52),
            edge(0x1p53 - 1, 3, "9007199254740991*2^0").digits(1075, (1L << 52) - 1).wholeLong((1L << 53) - 1)
                .next(0x1p53, 0x1p53 - 2, 1).unit(2 - 0x1p-52),
            edge(0x1p53, 3, "1*2^53").digits(1076, 0).wholeLong(1L << 53).next(0x1p53 + 2, 0x1p53 - 1, 2).unit(1),
        };
    }

    private static Edge[] aroundLongs() {
        return new Edge[] {
            edge(0x1p63 - 0x1p11, 3, "4503599627370495*2^11").digits(1085, (1L << 52) - 2).wholeLong(MOST_LONG - 2047)
                .next(0x1p63 - 0x1p10, 0x1p63 - 0x1.8p11, 0x1p10).unit(2 - 0x1p-51),
            edge(0x1p63 - 0x1p10, 3, "9007199254740991*2^10").digits(1085, (1L << 52) - 1).wholeLong(MOST_LONG - 1023)
                .next(0x1p63, 0x1p63 - 0x1p11, 0x1p10).unit(2 - 0x1p-52),
            edge(0x1p63, 3, "1*2^63").digits(1086, 0).beyondLongs().next(0x1p63 + 0x1p11, 0x1p63 - 0x1p10, 0x1p11).unit(1),
            edge(0x1p63 + 0x1p11, 3, "4503599627370497*2^11").digits(1086, 1).beyondLongs()
                .next(0x1p63 + 0x1p12, 0x1p63, 0x1p11).unit(1 + 0x1p-52),
            edge(0x1p64, 3, "1*2^64").digits(1087, 0).beyondLongs().next(0x1p64 + 0x1p12, 0x1p64 - 0x1p11, 0x1p12).unit(1),
        };
    }

    private static Edge[] aroundEndless() {
        return new Edge[] {
            edge(0x1p1023, 3, "1*2^1023").digits(2046, 0).beyondLongs()
                .next(0x1p1023 + 0x1p971, 0x1p1023 - 0x1p970, 0x1p971).unit(1),
            edge(MOST - 0x1p971, 3, "4503599627370495*2^972").digits(2046, (1L << 52) - 2).beyondLongs()
                .next(MOST, MOST - 0x1p972, 0x1p971).unit(2 - 0x1p-51),
            edge(MOST, 3, "9007199254740991*2^971").digits(2046, (1L << 52) - 1).beyondLongs()
                .next(ENDLESS, MOST - 0x1p971, 0x1p971).unit(2 - 0x1p-52),
            edge(ENDLESS, 4, "E").digits(2047, 0).beyondLongs().next(ENDLESS, MOST, ENDLESS).unit(ENDLESS),
        };
    }
}
