/** Promise 8: files whose PARTS nest far too often to be gone through one by one are run all the same. */
public final class RunManyPartsTest {
    public static void main(String[] args) {
        Checks c = new Checks("RunManyPartsTest");
        emptyParts(c);
        partsInACircle(c);
        pointsBehindACircle(c);
        joinedEmptyParts(c);
        pointsBehindAllThatIsTold(c);
        pointsAtEveryLevel(c);
        pointsInOneSignAlone(c);
        pointsUnderOneSignAlone(c);
        partsOfHighSigns(c);
        c.end();
    }

    /** As many PARTS as told, of the SIGNS in turn. */
    private static byte[] parts(int count, int... signs) {
        byte[][] parts = new byte[count][];
        for (int i = 0; i < count; i++) {
            parts[i] = Sign.moved(signs[i % signs.length], 0, 0);
        }
        return Sign.composite(parts);
    }

    /** SIGNS 0, 2, 4 .. have the same DATA; those between are the wrong way round. The last one has its own. */
    private static FontFile shared(int signs, byte[] data, byte[] last) {
        Bytes loca = new Bytes();
        for (int i = 0; i < signs; i++) {
            loca.four(0, data.length);
        }
        loca.four(data.length + last.length);
        return new FontFile().table("head", FontFile.head(1000, 1)).table("maxp", FontFile.maxp(2 * signs))
                .table("loca", loca.done()).table("glyf", new Bytes().all(data).all(last).done());
    }

    private static void emptyParts(Checks c) {
        byte[][] signs = {Sign.EMPTY, parts(35, 0), parts(35, 1), parts(35, 2), parts(35, 3), parts(35, 4)};
        TrueOutlines x = FontFile.of(true, signs).read();
        c.same("35 times 35 .. empty ones", x.run(5), 0);
        c.told("35 times 35 .. empty ones", x);
    }

    private static void partsInACircle(Checks c) {
        TrueOutlines x = shared(8, parts(180, 0, 2, 4, 6, 8, 10, 12), Sign.EMPTY).read();
        c.same("a circle without points", x.run(0), 0);
        c.same("how many are told", x.told(-1, 0), 100);
        c.same("the first one is left out", x.told(0, 0), 4);
        c.same("it is the sign itself", x.told(0, 1), 0);
    }

    private static void pointsBehindACircle(Checks c) {
        byte[] circle = parts(150, 0, 2, 4, 6, 8, 10);
        byte[] last = Sign.moved(13, 3, 4);
        byte[] data = new Bytes().all(circle).all(last).done();
        data[circle.length - 5] |= 32;
        TrueOutlines x = shared(7, data, Sign.row(30)).read();
        c.same("circles with points", x.run(0), 120);
        c.same("how many are told", x.told(-1, 0), 100);
        c.same("the place of the first points", x.piece(0, 2), 6);
    }

    /** SIGN 8 tells a hundred left out, and then has a chain of PARTS, down to SIGN 2, and others. */
    private static void pointsBehindAllThatIsTold(Checks c) {
        byte[][] signs = new byte[9][];
        signs[0] = Sign.row(1);
        signs[1] = Sign.row(60);
        signs[2] = Sign.composite(Sign.moved(0, 1, 1), Sign.moved(1, 1, 1));
        for (int i = 3; i < 6; i++) {
            signs[i] = Sign.composite(Sign.moved(i - 1, 1, 1));
        }
        signs[6] = new byte[3];
        signs[7] = new Bytes().all(Sign.composite(Sign.moved(1, 0, 0), Sign.moved(0, 0, 0))).done();
        signs[7][11] |= 32;
        signs[7][17] |= 32;
        byte[][] parts = new byte[107][];
        java.util.Arrays.fill(parts, Sign.moved(900, 0, 0));
        parts[100] = Sign.moved(5, 10, 20);
        parts[101] = Sign.moved(6, 0, 0);
        parts[102] = Sign.moved(7, 0, 0);
        parts[103] = Sign.moved(1, 0, 0);
        parts[104] = Sign.moved(0, 0, 0);
        parts[105] = Sign.moved(1, 7, 0);
        parts[106] = Sign.moved(3, 9, 0);
        signs[8] = Sign.composite(parts);
        TrueOutlines x = FontFile.of(true, signs).read();
        c.same("run(8)", x.run(8), 60);
        c.same("how many are told", x.told(-1, 0), 100);
        c.same("points: 1, 60; none; none; none; 1; none; 1", x.count(3), 63);
        c.same("contours", x.count(4), 4);
        c.piece("in five", x, 0, 1, 0, 2 * 15 - 2, 2 * 25 - 2);
    }

    /** SIGN 7 tells a hundred left out, and then has one POINT at each of the five levels. */
    private static void pointsAtEveryLevel(Checks c) {
        byte[][] signs = new byte[8][];
        signs[0] = Sign.row(60);
        signs[1] = Sign.row(61);
        signs[2] = Sign.row(1);
        signs[3] = Sign.composite(Sign.moved(2, 0, 0));
        for (int i = 4; i < 7; i++) {
            signs[i] = Sign.composite(Sign.moved(i - 1, 0, 0), Sign.moved(2, 0, 0));
        }
        byte[][] parts = new byte[102][];
        java.util.Arrays.fill(parts, Sign.moved(900, 0, 0));
        parts[100] = Sign.moved(6, 0, 0);
        parts[101] = Sign.moved(2, 0, 0);
        signs[7] = Sign.composite(parts);
        TrueOutlines x = FontFile.of(true, signs).read();
        c.same("run(7)", x.run(7), 0);
        c.same("how many are told", x.told(-1, 0), 100);
        c.same("count(3)", x.count(3), 5);
        c.same("count(4)", x.count(4), 5);
    }

    /** SIGNS 0, 2, 4 .. have one another and SIGN 12 as PARTS, which alone has a POINT: SIGN 13. */
    private static void pointsInOneSignAlone(Checks c) {
        byte[] circle = parts(169, 0, 2, 4, 6, 8, 10, 12);
        byte[] outer = new Bytes().all(parts(30, 0, 2, 4, 6, 8, 10)).all(Sign.moved(13, 3, 4)).done();
        outer[outer.length - 11] |= 32;
        Bytes loca = new Bytes();
        for (int i = 0; i < 6; i++) {
            loca.four(0, circle.length);
        }
        loca.four(circle.length, circle.length + outer.length, circle.length + outer.length + Sign.row(1).length);
        TrueOutlines x = new FontFile().table("head", FontFile.head(1000, 1)).table("maxp", FontFile.maxp(14))
                .table("loca", loca.done())
                .table("glyf", new Bytes().all(circle).all(outer).all(Sign.row(1)).done()).read();
        c.same("run(12)", x.run(12), 0);
        c.same("how many are told", x.told(-1, 0), 100);
        c.same("count(3)", x.count(3), 1);
        c.same("run(0)", x.run(0), 0);
        c.same("count(3), as many as there may be", x.count(3), 120);
    }

    /** SIGN 1 has SIGN 2, which has SIGN 1: nothing comes of SIGN 2 in it, but in SIGN 3, and alone. */
    private static void pointsUnderOneSignAlone(Checks c) {
        byte[] one = Sign.composite(Sign.moved(2, 0, 0), Sign.moved(2, 0, 0), Sign.moved(0, 5, 5));
        byte[] two = Sign.composite(Sign.moved(1, 10, 10));
        byte[] three = Sign.composite(Sign.moved(2, 20, 20), Sign.moved(2, 30, 30));
        byte[][] parts = new byte[105][];
        java.util.Arrays.fill(parts, Sign.moved(900, 0, 0));
        parts[100] = Sign.moved(1, 0, 0);
        parts[101] = Sign.moved(3, 0, 0);
        parts[102] = Sign.moved(1, 0, 0);
        parts[103] = Sign.moved(2, 0, 0);
        parts[104] = Sign.moved(3, 0, 0);
        TrueOutlines x = FontFile.of(true, Sign.row(2), one, two, three, Sign.composite(parts)).read();
        int[] due = {5, 35, 45, 5, 15, 35, 45};
        for (int again = 0; again < 2; again++) {
            c.same("run(4)", x.run(4), 2 * due.length);
            for (int i = 0; i < due.length; i++) {
                c.same("where contour " + i + " begins", x.piece(2 * i, 3), 2 * due[i]);
            }
        }
    }

    /** Of 200 SIGNS all are EMPTY but a chain of five that goes to and fro between high and low ones. */
    private static void partsOfHighSigns(Checks c) {
        byte[][] signs = new byte[200][];
        java.util.Arrays.fill(signs, Sign.EMPTY);
        signs[199] = Sign.row(2);
        signs[1] = Sign.composite(Sign.moved(199, 1, 0), Sign.moved(50, 0, 0));
        signs[198] = Sign.composite(Sign.moved(1, 2, 0), Sign.moved(199, 0, 5));
        signs[0] = Sign.composite(Sign.moved(150, 0, 0), Sign.moved(198, 4, 0), Sign.moved(200, 0, 0));
        signs[101] = Sign.composite(Sign.moved(0, 8, 0), Sign.moved(100, 0, 0));
        TrueOutlines x = FontFile.of(signs).read();
        c.same("run(101)", x.run(101), 4);
        c.piece("in all four others", x, 0, 0, 0, 30, 0);
        c.piece("in three others", x, 2, 1, 0, 24, 10);
        c.told("run(101)", x, 4, 200);
        c.same("run(199)", x.run(199), 2);
        c.same("run(200)", x.run(200), -1);
    }

    private static void joinedEmptyParts(Checks c) {
        TrueOutlines x = FontFile.of(true, Sign.EMPTY, Sign.composite(Sign.moved(0, 0, 0), Sign.joined(0, 0, 0)),
                Sign.composite(Sign.moved(1, 0, 0), Sign.joined(1, 0, 0), Sign.moved(0, 0, 0))).read();
        c.same("run(2)", x.run(2), 0);
        c.told("run(2)", x, 3, 0, 3, 0, 3, 1);
    }
}
