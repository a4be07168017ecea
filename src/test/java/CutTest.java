import java.util.Arrays;

/** Promise 14: cut. */
public final class CutTest {
    public static void main(String[] args) {
        Checks c = new Checks("CutTest");
        partsOfParts(c);
        longChain(c);
        circle(c);
        partsWhoseBytesAreThere(c);
        signsThatAreBad(c);
        partsBeyondTheData(c);
        everyKindOfPart(c);
        noSuchSign(c);
        twoHundredSigns(c);
        c.end();
    }

    private static void partsOfParts(Checks c) {
        TrueOutlines x = FontFile.of(Sign.row(2), Sign.row(3), Sign.composite(Sign.moved(1, 0, 0)),
                Sign.composite(Sign.moved(2, 0, 0), Sign.joined(0, 0, 0)), Sign.EMPTY).read();
        c.same("cut(4), an empty one", x.cut(4), 1);
        c.same("cut(2)", x.cut(2), 3);
        c.same("cut(2) again", x.cut(2), 3);
        c.same("cut(1), used already", x.cut(1), 3);
        c.same("cut(3)", x.cut(3), 5);
        c.same("count(2)", x.count(2), 5);
        TrueOutlines y = FontFile.of(Sign.row(2), Sign.row(3), Sign.composite(Sign.moved(1, 0, 0)),
                Sign.composite(Sign.moved(2, 0, 0), Sign.joined(0, 0, 0)), Sign.EMPTY).read();
        c.same("cut(0)", y.cut(0), 1);
        c.same("cut(3), all of its parts", y.cut(3), 4);
    }

    private static void longChain(Checks c) {
        byte[][] signs = new byte[60][];
        signs[0] = Sign.EMPTY;
        for (int i = 1; i < signs.length; i++) {
            signs[i] = Sign.composite(Sign.moved(i - 1, 0, 0));
        }
        TrueOutlines x = FontFile.of(signs).read();
        c.same("a chain of 60", x.cut(59), 60);
    }

    private static void circle(Checks c) {
        TrueOutlines x = FontFile.of(Sign.composite(Sign.moved(1, 0, 0)), Sign.composite(Sign.moved(2, 0, 0)),
                Sign.composite(Sign.moved(2, 0, 0), Sign.moved(0, 0, 0))).read();
        c.same("a circle", x.cut(1), 3);
    }

    private static void partsWhoseBytesAreThere(Checks c) {
        byte[] last = new Bytes().two(3 + 128, 2, 0, 0).two(1, 1, 1, 1).done();
        byte[] whole = Sign.composite(Sign.moved(0, 0, 0), Sign.moved(1, 0, 0), last);
        for (int size = 1; size <= whole.length; size++) {
            TrueOutlines x = FontFile.of(true, Sign.EMPTY, Sign.EMPTY, Sign.EMPTY,
                    Arrays.copyOf(whole, size), new byte[9]).read();
            int due = 1 + (size >= 16 ? 1 : 0) + (size >= 22 ? 1 : 0) + (size >= whole.length ? 1 : 0);
            c.same("cut(3) of " + size + " bytes", x.cut(3), due);
        }
        TrueOutlines y = FontFile.of(true, Sign.EMPTY, Sign.EMPTY,
                Sign.composite(Sign.moved(9, 0, 0), Sign.moved(65535, 0, 0), Sign.moved(1, 0, 0))).read();
        c.same("parts that are no signs are passed over", y.cut(2), 2);
        byte[] behind = new Bytes().all(Sign.composite(Sign.moved(1, 0, 0))).all(Sign.moved(0, 0, 0)).done();
        TrueOutlines w = FontFile.of(true, Sign.EMPTY, Sign.EMPTY, behind).read();
        c.same("what is behind the last part is none", w.cut(2), 2);
        byte[] simple = new Bytes().two(1).all(Arrays.copyOfRange(Sign.composite(Sign.moved(0, 0, 0)), 2, 16)).done();
        TrueOutlines z = FontFile.of(true, Sign.EMPTY, simple).read();
        c.same("no parts if the contours are 0 or more", z.cut(1), 1);
    }

    private static void signsThatAreBad(Checks c) {
        TrueOutlines x = FontFile.of(true, new byte[3], Sign.composite(Sign.moved(0, 0, 0))).read();
        c.same("a part that is bad is used", x.cut(1), 2);
        TrueOutlines y = new FontFile().table("maxp", FontFile.maxp(3)).read();
        c.same("without loca and glyf", y.cut(2), 1);
        c.same("cut(0)", y.cut(0), 2);
    }

    /** The second place of SIGN 2 is beyond glyf: its PARTS are used up to the end of glyf. */
    private static void partsBeyondTheData(Checks c) {
        byte[] glyf = Sign.composite(Sign.moved(0, 0, 0), Sign.moved(1, 0, 0));
        for (int size = 15; size <= glyf.length; size++) {
            TrueOutlines x = new FontFile().table("head", FontFile.head(1, 1)).table("maxp", FontFile.maxp(3))
                    .table("loca", new Bytes().four(0, 0, 0, 1000).done())
                    .table("glyf", Arrays.copyOf(glyf, size)).read();
            c.same("cut(2), glyf of " + size, x.cut(2), 1 + (size >= 16 ? 1 : 0) + (size >= 22 ? 1 : 0));
        }
        TrueOutlines back = new FontFile().table("head", FontFile.head(1, 1)).table("maxp", FontFile.maxp(3))
                .table("loca", new Bytes().four(0, 0, 22, 0).done()).table("glyf", glyf).read();
        c.same("the wrong way round", back.cut(2), 1);
        TrueOutlines empty = new FontFile().table("head", FontFile.head(1, 1)).table("maxp", FontFile.maxp(3))
                .table("loca", new Bytes().four(1, 1, 0, 0).done()).table("glyf", glyf).read();
        c.same("an empty one", empty.cut(2), 1);
    }

    /** PARTS of all lengths, so that the next one is found behind each. */
    private static void everyKindOfPart(Checks c) {
        byte[][] kinds = {Sign.moved(0, 9, 9), Sign.joined(0, 255, 255), new Bytes().two(1, 0, 9, 9).done(),
            new Bytes().two(2 + 8, 0).one(9, 9).two(9).done(),
            new Bytes().two(2 + 64, 0).one(9, 9).two(9, 9).done(),
            new Bytes().two(2 + 128, 0).one(9, 9).two(9, 9, 9, 9).done(),
            new Bytes().two(3 + 8 + 64 + 128, 0).two(9, 9).two(9).done(),
            new Bytes().two(3 + 64 + 128, 0).two(9, 9).two(9, 9).done()};
        for (int i = 0; i < kinds.length; i++) {
            TrueOutlines x = FontFile.of(true, Sign.EMPTY, Sign.EMPTY,
                    Sign.composite(kinds[i], Sign.moved(1, 0, 0))).read();
            c.same("a part behind one of kind " + i, x.cut(2), 3);
        }
    }

    private static void twoHundredSigns(Checks c) {
        TrueOutlines x = new FontFile().table("maxp", FontFile.maxp(500)).read();
        c.same("cut(199)", x.cut(199), 1);
        c.same("cut(200), which is no sign any more", x.cut(200), -1);
        TrueOutlines y = new FontFile().table("abcd", new byte[1]).read();
        c.same("cut(0) without signs", y.cut(0), -1);
    }

    private static void noSuchSign(Checks c) {
        TrueOutlines x = FontFile.of(Sign.row(2), Sign.row(2)).read();
        x.cut(1);
        int[] wrong = {-1, 2, 200, Integer.MIN_VALUE, Integer.MAX_VALUE};
        for (int sign : wrong) {
            c.same("cut(" + sign + ")", x.cut(sign), -1);
            c.same("count(2)", x.count(2), 1);
        }
        TrueOutlines y = new FontFile().table("maxp", FontFile.maxp(200)).read();
        for (int i = 0; i < 200; i++) {
            c.same("cut(" + (199 - i) + ")", y.cut(199 - i), i + 1);
        }
    }
}
