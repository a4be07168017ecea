import java.util.Arrays;

/** Promise 8: run, of SIGNS with PARTS. */
public final class RunPartsTest {
    public static void main(String[] args) {
        Checks c = new Checks("RunPartsTest");
        numbers(c);
        scales(c);
        scalesOfOnePartAlone(c);
        rounding(c);
        wrapping(c);
        joining(c);
        joiningWhatIsNotThere(c);
        joiningInside(c);
        joiningByGreatNumbers(c);
        joiningFarPoints(c);
        movingBeyondTheInts(c);
        leftOut(c);
        leftOutAtTheEnd(c);
        depth(c);
        depthOfCircles(c);
        badParts(c);
        everyByteIsNeeded(c);
        tooManyPoints(c);
        pointsOfBadSigns(c);
        contours(c);
        contoursBelowNone(c);
        c.end();
    }

    private static final int SIGN = 1;

    /** The SIGN 1 with one PART, SIGN 0, of two POINTS: at 100, 40 and at -3, 7. */
    private static TrueOutlines ofPart(byte[] part) {
        int[] line = {100, 40, Sign.ON, -3, 7, Sign.ON};
        return FontFile.of(true, Sign.simple(line), Sign.composite(part)).read();
    }

    private static void two(Checks c, String what, byte[] part, int... due) {
        TrueOutlines x = ofPart(part);
        c.same(what + ": run", x.run(SIGN), 2);
        c.piece(what, x, 0, 0, 0, 2 * due[0], 2 * due[1], 0, 0, 2 * due[2], 2 * due[3]);
        c.told(what, x);
    }

    private static void numbers(Checks c) {
        two(c, "bytes", Sign.moved(0, 127, 128), 227, -88, 124, -121);
        two(c, "bytes below 0", Sign.moved(0, 255, 0), 99, 40, -4, 7);
        two(c, "twos", new Bytes().two(3, 0, 32767, 32768).done(), 32867, -32728, 32764, -32761);
        two(c, "twos below 0", new Bytes().two(3, 0, 65535, 256).done(), 99, 296, -4, 263);
        two(c, "other flags mean nothing", new Bytes().two(0xFF16, 0).one(1, 2).done(), 101, 42, -2, 9);
    }

    private static void scales(Checks c) {
        two(c, "8", new Bytes().two(2 + 8, 0).one(0, 0).two(8192).done(), 50, 20, -1, 4);
        two(c, "8 before 64 and 128", new Bytes().two(2 + 8 + 64 + 128, 0).one(0, 0).two(32768).done(),
                -200, -80, 6, -14);
        two(c, "64", new Bytes().two(2 + 64, 0).one(0, 0).two(8192, 32767).done(), 50, 80, -1, 14);
        two(c, "64 before 128", new Bytes().two(2 + 64 + 128, 0).one(5, 6).two(16384, -16384).done(),
                105, -34, 2, -1);
        two(c, "128", new Bytes().two(2 + 128, 0).one(0, 0).two(16384, 8192, -16384, 0).done(),
                60, 50, -10, -1);
        two(c, "128, moved behind", new Bytes().two(3 + 128, 0, 1000, 2000).two(0, 16384, 16384, 0).done(),
                1040, 2100, 1007, 1997);
    }

    private static void scalesOfOnePartAlone(Checks c) {
        byte[] turned = new Bytes().two(2 + 128, 0).one(0, 0).two(0, 16384, -16384, 0).done();
        byte[] half = new Bytes().two(2 + 8, 0).one(0, 0).two(8192).done();
        byte[] halves = new Bytes().two(2 + 64, 0).one(0, 0).two(8192, 8192).done();
        int[] line = {100, 40, Sign.ON, 20, 60, Sign.ON};
        TrueOutlines x = FontFile.of(true, Sign.simple(line),
                Sign.composite(turned, Sign.moved(0, 0, 0), turned, half, turned, halves)).read();
        c.same("run(1)", x.run(1), 12);
        c.piece("turned", x, 0, 0, 0, -80, 200, 0, 0, -120, 40);
        c.piece("as it is", x, 2, 1, 0, 200, 80, 0, 0, 40, 120);
        c.piece("half", x, 6, 3, 0, 100, 40, 0, 0, 20, 60);
        c.piece("halves", x, 10, 5, 0, 100, 40, 0, 0, 20, 60);
    }

    private static void rounding(Checks c) {
        int[] line = {1, 3, Sign.ON, -1, -3, Sign.ON};
        byte[] half = new Bytes().two(2 + 8, 0).one(0, 0).two(8192).done();
        TrueOutlines x = FontFile.of(true, Sign.simple(line), Sign.composite(half)).read();
        x.run(1);
        c.piece("halves go up", x, 0, 0, 0, 2, 4, 0, 0, 0, -2);
        byte[] less = new Bytes().two(2 + 8, 0).one(0, 0).two(8191).done();
        TrueOutlines y = FontFile.of(true, Sign.simple(line), Sign.composite(less)).read();
        y.run(1);
        c.piece("less than halves", y, 0, 0, 0, 0, 2, 0, 0, 0, -2);
        byte[] both = new Bytes().two(2 + 128, 0).one(0, 0).two(4096, 1, 4096, 2).done();
        TrueOutlines z = FontFile.of(true, Sign.simple(new int[] {1, 1, Sign.ON, 3, -1, Sign.ON}),
                Sign.composite(both)).read();
        z.run(1);
        c.piece("the sum is rounded, not its parts", z, 0, 0, 0, 2, 0, 0, 0, 2, 0);
    }

    /** 4 to the power of 5 takes the far POINTS beyond the ints, the last move takes others there. */
    private static void wrapping(Checks c) {
        byte[][] signs = new byte[7][];
        signs[0] = Sign.far(120, Sign.ON);
        for (int i = 1; i < 6; i++) {
            signs[i] = Sign.composite(Sign.timesMinusFour(i - 1));
        }
        byte[] same = new Bytes().two(3 + 128, 4, 32767, -32768).two(-32768, -32768, -32768, -32768).done();
        signs[6] = Sign.composite(same);
        TrueOutlines x = FontFile.of(true, signs).read();
        c.same("run(5)", x.run(5), 120);
        c.same("run(6)", x.run(6), 120);
        for (int i = 0; i < 120; i++) {
            int far = -1024 * 32767 * (i + 1);
            c.same("x of point " + i, x.piece(i, 2), 2 * (far + 32767));
            c.same("y of point " + i, x.piece(i, 3), 2 * (far - 32768));
        }
    }

    private static void joining(Checks c) {
        int[] line = {100, 40, Sign.ON, -3, 7, Sign.ON};
        byte[] joined = new Bytes().two(0 + 8, 0).one(1, 0).two(8192).done();
        TrueOutlines x = FontFile.of(true, Sign.simple(line),
                Sign.composite(Sign.moved(0, 10, 20), joined)).read();
        c.same("run(1)", x.run(1), 4);
        c.piece("the first part", x, 0, 0, 0, 220, 120, 0, 0, 14, 54);
        c.piece("the second part, scaled first", x, 2, 1, 0, 14, 54, 0, 0, 14 - 102, 54 - 32);
        c.told("joined", x);
        byte[] wide = new Bytes().two(1, 0, 0, 1).done();
        TrueOutlines y = FontFile.of(true, Sign.simple(line),
                Sign.composite(Sign.moved(0, 10, 20), wide)).read();
        y.run(1);
        c.piece("by numbers of two bytes", y, 2, 1, 0, 220 + 206, 120 + 66, 0, 0, 220, 120);
    }

    private static void notJoined(Checks c, String what, int first, int second, boolean there) {
        int[] line = {100, 40, Sign.ON, -3, 7, Sign.ON};
        TrueOutlines x = FontFile.of(true, Sign.simple(line),
                Sign.composite(Sign.moved(0, 10, 20), new Bytes().two(1, 0, first, second).done())).read();
        c.same(what + ": run(1)", x.run(1), 4);
        if (there) {
            c.told(what, x);
        } else {
            c.told(what, x, 3, 0);
            c.piece(what + ", not moved", x, 2, 1, 0, 200, 80, 0, 0, -6, 14);
        }
    }

    private static void joiningWhatIsNotThere(Checks c) {
        notJoined(c, "both are the last ones", 1, 1, true);
        notJoined(c, "the first one is of the part itself", 2, 0, false);
        notJoined(c, "the first one is 65535", 65535, 0, false);
        notJoined(c, "the second one is 2", 0, 2, false);
        notJoined(c, "the second one is 65535", 0, 65535, false);
        TrueOutlines x = FontFile.of(true, Sign.row(2), Sign.composite(Sign.joined(0, 0, 0))).read();
        c.same("no points before the part", x.run(1), 2);
        c.told("no points before the part", x, 3, 0);
        TrueOutlines y = FontFile.of(true, Sign.row(2), Sign.EMPTY,
                Sign.composite(Sign.moved(0, 0, 0), Sign.joined(1, 0, 0))).read();
        c.same("an empty part", y.run(2), 2);
        c.told("an empty part", y, 3, 1);
        TrueOutlines z = FontFile.of(true, Sign.row(2), new byte[2],
                Sign.composite(Sign.moved(0, 0, 0), Sign.joined(1, 0, 0))).read();
        c.same("a bad part", z.run(2), 2);
        c.told("a bad part", z, 1, 1, 3, 1);
    }

    /** The POINTS by number are those of the SIGN that has the PART, not of the one that is run. */
    private static void joiningInside(Checks c) {
        int[] line = {100, 40, Sign.ON, -3, 7, Sign.ON};
        byte[] inner = Sign.composite(Sign.moved(0, 1, 1), Sign.joined(0, 1, 0));
        byte[] outer = Sign.composite(Sign.moved(0, 50, 50), Sign.moved(1, 10, 10));
        TrueOutlines x = FontFile.of(true, Sign.simple(line), inner, outer).read();
        c.same("run(2)", x.run(2), 6);
        c.piece("joined inside", x, 4, 2, 0, 2 * (-2 + 10), 2 * (8 + 10), 0, 0, 2 * (-105 + 10), 2 * (-25 + 10));
        byte[] beyond = Sign.composite(Sign.joined(0, 0, 0));
        TrueOutlines y = FontFile.of(true, Sign.simple(line), beyond,
                Sign.composite(Sign.moved(0, 0, 0), Sign.moved(1, 0, 0))).read();
        c.same("run(2), its own points do not count", y.run(2), 4);
        c.told("its own points do not count", y, 3, 0);
    }

    /** Without 2 the numbers are not below 0: 255 and 65535 are not the POINT before the SIGN's first one. */
    private static void joiningByGreatNumbers(Checks c) {
        byte[][] parts = {Sign.joined(0, 255, 0), Sign.joined(0, 0, 255), new Bytes().two(1, 0, 65535, 0).done(),
            new Bytes().two(1, 0, 0, 65535).done(), Sign.joined(0, 128, 128)};
        for (int i = 0; i < parts.length; i++) {
            byte[] inner = Sign.composite(Sign.moved(0, 1, 1), parts[i]);
            TrueOutlines x = FontFile.of(true, Sign.row(2), inner,
                    Sign.composite(Sign.moved(0, 9, 9), Sign.moved(1, 0, 0))).read();
            c.same("run(2) of " + i, x.run(2), 6);
            c.told("run(2) of " + i, x, 3, 0);
            c.piece("not moved, " + i, x, 4, 2, 0, 0, 0, 0, 0, 2, 0);
        }
    }

    /** The last POINT of SIGN 4 is far away, and comes to the first one of SIGN 5; all others go with it. */
    private static void joiningFarPoints(Checks c) {
        byte[][] signs = new byte[7][];
        signs[0] = Sign.far(64, Sign.ON);
        for (int i = 1; i < 5; i++) {
            signs[i] = Sign.composite(Sign.timesMinusFour(i - 1));
        }
        signs[5] = Sign.simple(new int[] {100, -7, Sign.ON, 1, 1, Sign.ON});
        signs[6] = Sign.composite(Sign.timesMinusFour(5), Sign.joined(4, 0, 63));
        TrueOutlines x = FontFile.of(true, signs).read();
        c.same("run(4)", x.run(4), 64);
        c.same("run(6)", x.run(6), 66);
        c.told("run(6)", x);
        int joined = -2 * (100 - 7);
        for (int i = 0; i < 64; i++) {
            int away = 256 * 32767 * (i - 63);
            c.same("x of " + i, x.piece(2 + i, 2), 2 * (joined + away));
            c.same("y of " + i, x.piece(2 + i, 3), 2 * (joined + away));
        }
    }

    /** The last POINT of SIGN 4 is at 2^31 - 2 behind a scale of 63552 / 16384; then it is moved. */
    private static void movingBeyondTheInts(Checks c) {
        int far = Integer.MAX_VALUE - 1;
        int[][] moves = {{0, 1}, {1, 2}, {2, 3}, {32767, -32768}};
        for (int[] move : moves) {
            byte[][] signs = new byte[6][];
            signs[0] = Sign.far(66, Sign.ON);
            for (int i = 1; i < 5; i++) {
                signs[i] = Sign.composite(Sign.timesMinusFour(i - 1));
            }
            signs[5] = Sign.composite(new Bytes().two(3 + 128, 4, move[0], move[1])
                    .two(31776, 31776, 31776, 31776).done());
            TrueOutlines x = FontFile.of(true, signs).read();
            c.same("run(5)", x.run(5), 66);
            c.same("x of the last one, moved by " + move[0], x.piece(65, 2), 2 * (far + move[0]));
            c.same("y of the last one, moved by " + move[1], x.piece(65, 3), 2 * (far + move[1]));
        }
    }

    /** The last PART is left out, or the only one: the SIGN is not BAD for that. */
    private static void leftOutAtTheEnd(Checks c) {
        TrueOutlines x = FontFile.of(true, Sign.row(2), Sign.composite(Sign.moved(0, 0, 0), Sign.moved(3, 0, 0)),
                Sign.composite(Sign.moved(2, 0, 0))).read();
        c.same("the last one", x.run(1), 2);
        c.told("the last one", x, 4, 3);
        c.same("the only one", x.run(2), 0);
        c.told("the only one", x, 4, 2);
        byte[] joined = Sign.composite(Sign.moved(0, 0, 0), Sign.joined(9, 7, 7));
        TrueOutlines y = FontFile.of(true, Sign.row(2), joined).read();
        c.same("one that would be joined", y.run(1), 2);
        c.told("one that would be joined is left out, and no more", y, 4, 9);
    }

    /** SIGN i has SIGN i + 1 as its PART, the last one the first: that lies in itself before it lies in six. */
    private static void depthOfCircles(Checks c) {
        for (int size = 1; size <= 8; size++) {
            byte[][] signs = new byte[size][];
            for (int i = 0; i < size; i++) {
                signs[i] = Sign.composite(Sign.moved((i + 1) % size, 0, 0));
            }
            TrueOutlines x = FontFile.of(true, signs).read();
            for (int i = 0; i < size; i++) {
                c.same("run(" + i + ") of a circle of " + size, x.run(i), 0);
                c.told("a circle of " + size, x, 4, size <= 6 ? i : (i + 6) % size);
            }
        }
    }

    private static void leftOut(Checks c) {
        byte[] sign = Sign.composite(Sign.moved(0, 0, 0), Sign.moved(4, 0, 0), Sign.moved(1, 0, 0),
                Sign.moved(65535, 0, 0), Sign.joined(3, 0, 0), Sign.moved(0, 5, 5));
        TrueOutlines x = FontFile.of(true, Sign.row(2), sign, Sign.composite(Sign.moved(1, 0, 0)),
                Sign.composite(Sign.moved(0, 0, 0), Sign.moved(1, 0, 0))).read();
        c.same("run(1)", x.run(1), 6);
        c.told("run(1)", x, 4, 4, 4, 1, 4, 65535, 4, 1);
        c.same("run(2)", x.run(2), 6);
        c.told("run(2)", x, 4, 4, 4, 1, 4, 65535, 4, 1);
        c.same("run(3)", x.run(3), 6);
        c.told("run(3)", x, 4, 4, 4, 1, 4, 65535, 4, 3);
    }

    /** A chain: SIGN i has SIGN i - 1 as its PART. */
    private static void depth(Checks c) {
        byte[][] signs = new byte[9][];
        signs[0] = Sign.row(2);
        for (int i = 1; i < signs.length; i++) {
            signs[i] = Sign.composite(Sign.moved(i - 1, 1, 2));
        }
        TrueOutlines x = FontFile.of(true, signs).read();
        c.same("in 5", x.run(5), 2);
        c.piece("in 5", x, 0, 0, 0, 10, 20);
        c.told("in 5", x);
        c.same("in 6", x.run(6), 0);
        c.told("in 6", x, 4, 0);
        c.same("in 7", x.run(7), 0);
        c.told("in 7", x, 4, 1);
    }

    private static void badParts(Checks c) {
        TrueOutlines x = FontFile.of(true, Sign.row(2), new byte[3],
                Sign.composite(Sign.moved(0, 0, 0), Sign.moved(1, 0, 0), Sign.moved(0, 9, 9)),
                Sign.composite(Sign.moved(2, 0, 0), Sign.moved(1, 0, 0))).read();
        c.same("run(2)", x.run(2), 4);
        c.told("run(2)", x, 1, 1);
        c.same("run(3)", x.run(3), 4);
        c.told("run(3)", x, 1, 1, 1, 1);
        c.piece("the part behind the bad one", x, 2, 1, 0, 18, 18);
    }

    private static void everyByteIsNeeded(Checks c) {
        byte[][] lasts = {Sign.moved(0, 0, 0), new Bytes().two(3, 0, 0, 0).done(),
            new Bytes().two(2 + 8, 0).one(0, 0).two(1).done(),
            new Bytes().two(2 + 64, 0).one(0, 0).two(1, 1).done(),
            new Bytes().two(2 + 128, 0).one(0, 0).two(1, 1, 1, 1).done()};
        for (byte[] last : lasts) {
            byte[] whole = Sign.composite(Sign.moved(0, 0, 0), Sign.moved(9, 0, 0), last);
            for (int size = 1; size <= whole.length; size++) {
                TrueOutlines x = FontFile.of(true, Sign.row(2), Arrays.copyOf(whole, size),
                        Sign.composite(Sign.moved(0, 0, 0), Sign.moved(1, 0, 0))).read();
                boolean good = size == whole.length;
                String what = size + " of " + whole.length + " bytes";
                c.same(what + ": run(1)", x.run(1), good ? 4 : 0);
                c.same(what + ": count(4)", x.count(4), good ? 2 : 0);
                c.same(what + ": is bad", x.told(x.told(-1, 0) - 1, 0), good ? 4 : 1);
                c.same(what + ": the missing sign is told", x.told(0, 0) == 4 ? 1 : 0, size >= 22 ? 1 : 0);
                c.same(what + ": run(2)", x.run(2), good ? 6 : 2);
            }
        }
        TrueOutlines more = FontFile.of(true, Sign.row(2),
                Sign.header(-5).two(2 + 32, 0).one(0, 0).done()).read();
        c.same("one more part, and it is past", more.run(1), 0);
        c.told("one more part, and it is past", more, 1, 1);
    }

    private static void tooManyPoints(Checks c) {
        byte[] row = Sign.row(50);
        TrueOutlines x = FontFile.of(true, row, Sign.row(20), Sign.row(21),
                Sign.composite(Sign.moved(0, 0, 0), Sign.moved(0, 0, 0), Sign.moved(0, 0, 0), Sign.moved(1, 7, 7)),
                Sign.composite(Sign.moved(0, 0, 0), Sign.moved(0, 0, 0), Sign.moved(2, 0, 0)),
                Sign.composite(Sign.moved(3, 0, 0), Sign.moved(1, 0, 0))).read();
        c.same("50, 50, 50, 20", x.run(3), 120);
        c.told("50, 50, 50, 20", x, 1, 0);
        c.same("the last part's contour", x.piece(100, 0), 2);
        c.same("the last part's place", x.piece(100, 2), 14);
        c.same("50, 50, 21", x.run(4), 100);
        c.told("50, 50, 21", x, 1, 2);
        c.same("all of the sign that is run", x.run(5), 120);
        c.told("all of the sign that is run", x, 1, 0, 1, 1);
        c.same("20", x.run(1), 20);
    }

    /** The POINTS of a SIGN that proves BAD are counted while it is made, and are gone behind it. */
    private static void pointsOfBadSigns(Checks c) {
        byte[] bad = Sign.composite(Sign.moved(0, 0, 0), Sign.moved(0, 0, 0));
        bad[bad.length - 5] |= 32;
        TrueOutlines x = FontFile.of(true, Sign.row(60), bad,
                Sign.composite(Sign.moved(0, 1, 1), Sign.moved(1, 0, 0), Sign.moved(0, 2, 2))).read();
        c.same("run(1)", x.run(1), 0);
        c.told("run(1)", x, 1, 1);
        c.same("run(2)", x.run(2), 120);
        c.told("run(2)", x, 1, 0, 1, 1);
        c.same("count(4)", x.count(4), 2);
        c.same("the contour of the last one", x.piece(119, 0), 1);
        c.same("y of the last one", x.piece(119, 3), 4);
        TrueOutlines y = FontFile.of(true, Sign.row(120), Sign.simple(new int[] {0, 0, Sign.ON}),
                Sign.composite(Sign.moved(0, 0, 0), Sign.moved(1, 0, 0)),
                Sign.composite(Sign.moved(1, 0, 0), Sign.moved(0, 0, 0))).read();
        c.same("120 and 1", y.run(2), 120);
        c.told("120 and 1", y, 1, 1);
        c.same("1 and 120", y.run(3), 0);
        c.told("1 and 120", y, 1, 0);
        c.same("count(3)", y.count(3), 1);
    }

    private static void contoursBelowNone(Checks c) {
        int[] below = {-1, -2, -32768};
        for (int contours : below) {
            TrueOutlines x = FontFile.of(true, Sign.row(2),
                    Sign.header(contours).all(Sign.moved(0, 0, 0)).done()).read();
            c.same(contours + " contours", x.run(1), 2);
            c.told(contours + " contours", x);
        }
        for (int size = 1; size < 10; size++) {
            TrueOutlines x = FontFile.of(true, Arrays.copyOf(Sign.header(-1).done(), size)).read();
            c.same("parts behind " + size + " bytes", x.run(0), 0);
            c.told("parts behind " + size + " bytes", x, 1, 0);
        }
    }

    private static void contours(Checks c) {
        int[] dot = {1, 1, Sign.ON};
        int[] line = {0, 0, Sign.ON, 4, 0, Sign.ON};
        TrueOutlines x = FontFile.of(true, Sign.simple(dot, line),
                Sign.composite(Sign.moved(0, 0, 0), Sign.moved(0, 0, 0))).read();
        c.same("run(1)", x.run(1), 4);
        c.same("count(3)", x.count(3), 6);
        c.same("count(4)", x.count(4), 4);
        c.same("the contour of the first piece", x.piece(0, 0), 1);
        c.same("the contour of the last piece", x.piece(3, 0), 3);
        TrueOutlines y = FontFile.of(true, Sign.simple(dot),
                Sign.composite(Sign.moved(0, 0, 0), Sign.moved(0, 0, 0))).read();
        c.same("parts of one point have no pieces", y.run(1), 0);
        c.same("count(3)", y.count(3), 2);
        c.same("count(4)", y.count(4), 2);
        TrueOutlines z = FontFile.of(true, Sign.row(2),
                new Bytes().all(Sign.composite(Sign.moved(0, 0, 0))).all(Sign.moved(0, 0, 0)).done()).read();
        c.same("what is behind the last part is none", z.run(1), 2);
    }
}
