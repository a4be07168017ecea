/** Promise 8: files whose PARTS nest far too often to be gone through one by one are run all the same. */
public final class RunManyPartsTest {
    public static void main(String[] args) {
        Checks c = new Checks("RunManyPartsTest");
        emptyParts(c);
        partsInACircle(c);
        pointsBehindACircle(c);
        joinedEmptyParts(c);
        c.end();
    }

    /** As many PARTS as told, of the SIGNS in turn. */
    private static byte[] parts(int count, int... signs) {
        byte[][] parts = new byte[count][];
        for (int i = 0; i < count; i++) {
            parts[i] = Sign.moved(signs[i % signs.length], 0, 0);
        }
        return Sign.composite(parts);
    }

    /** SIGNS 0, 2, 4 .. have the same DATA; those between are the wrong way round. The last one has its own. */
    private static FontFile shared(int signs, byte[] data, byte[] last) {
        Bytes loca = new Bytes();
        for (int i = 0; i < signs; i++) {
            loca.four(0, data.length);
        }
        loca.four(data.length + last.length);
        return new FontFile().table("head", FontFile.head(1000, 1)).table("maxp", FontFile.maxp(2 * signs))
                .table("loca", loca.done()).table("glyf", new Bytes().all(data).all(last).done());
    }

    private static void emptyParts(Checks c) {
        byte[][] signs = {Sign.EMPTY, parts(35, 0), parts(35, 1), parts(35, 2), parts(35, 3), parts(35, 4)};
        TrueOutlines x = FontFile.of(true, signs).read();
        c.same("35 times 35 .. empty ones", x.run(5), 0);
        c.told("35 times 35 .. empty ones", x);
    }

    private static void partsInACircle(Checks c) {
        TrueOutlines x = shared(8, parts(180, 0, 2, 4, 6, 8, 10, 12), Sign.EMPTY).read();
        c.same("a circle without points", x.run(0), 0);
        c.same("how many are told", x.told(-1, 0), 100);
        c.same("the first one is left out", x.told(0, 0), 4);
        c.same("it is the sign itself", x.told(0, 1), 0);
    }

    private static void pointsBehindACircle(Checks c) {
        byte[] circle = parts(150, 0, 2, 4, 6, 8, 10);
        byte[] last = Sign.moved(13, 3, 4);
        byte[] data = new Bytes().all(circle).all(last).done();
        data[circle.length - 5] |= 32;
        TrueOutlines x = shared(7, data, Sign.row(30)).read();
        c.same("circles with points", x.run(0), 120);
        c.same("how many are told", x.told(-1, 0), 100);
        c.same("the place of the first points", x.piece(0, 2), 6);
    }

    private static void joinedEmptyParts(Checks c) {
        TrueOutlines x = FontFile.of(true, Sign.EMPTY, Sign.composite(Sign.moved(0, 0, 0), Sign.joined(0, 0, 0)),
                Sign.composite(Sign.moved(1, 0, 0), Sign.joined(1, 0, 0), Sign.moved(0, 0, 0))).read();
        c.same("run(2)", x.run(2), 0);
        c.told("run(2)", x, 3, 0, 3, 0, 3, 1);
    }
}
