import java.util.Arrays;

/** Promise 8: run, of SIGNS without PARTS. */
public final class RunSimpleTest {
    public static void main(String[] args) {
        Checks c = new Checks("RunSimpleTest");
        flags(c);
        repeatedFlags(c);
        repeatedTooOften(c);
        repeatedAtTheEnd(c);
        passedBytes(c);
        emptySigns(c);
        noContours(c);
        contoursOutOfOrder(c);
        everyByteIsNeeded(c);
        pointsAtMost(c);
        places(c);
        formsOfLoca(c);
        locaAtTheFilesBeginning(c);
        dataUpToTheEndOfGlyf(c);
        everyByteOfLocaIsNeeded(c);
        noSuchSign(c);
        twoHundredSigns(c);
        steps(c);
        wrapping(c);
        c.end();
    }

    /** The ends of the PIECES of a contour of lines are its POINTS from the second one on. */
    private static void lines(Checks c, String what, TrueOutlines x, int... points) {
        int n = points.length / 2;
        c.same(what + ": run(0)", x.run(0), n);
        for (int i = 0; i < n && i < x.count(3); i++) {
            c.piece(what, x, i, 0, 0, 2 * points[2 * i], 2 * points[2 * i + 1], 0, 0,
                    2 * points[(2 * i + 2) % (2 * n)], 2 * points[(2 * i + 3) % (2 * n)]);
        }
    }

    private static TrueOutlines of(Bytes sign) {
        return FontFile.of(true, sign.done()).read();
    }

    private static void flags(Checks c) {
        Bytes sign = Sign.header(1).two(6, 0)
                .one(1, 1 + 2, 1 + 2 + 16, 1 + 16, 1 + 4, 1 + 4 + 32, 1 + 32)
                .two(-300).one(200).one(255).two(-5).two(7).two(9)
                .two(1000).two(-2000).two(3).two(4).one(255).one(7);
        lines(c, "all kinds of flags", of(sign),
                -300, 1000, -500, -1000, -245, -997, -245, -993, -250, -1248, -243, -1241, -234, -1241);
        Bytes high = Sign.header(1).two(1, 0).one(1 + 64 + 128, 1 + 16 + 32 + 192).two(5).two(6);
        lines(c, "64 and 128 mean nothing", of(high), 5, 6, 5, 6);
    }

    private static void repeatedFlags(Checks c) {
        Bytes sign = Sign.header(1).two(4, 0).one(1 + 2 + 16 + 32 + 8, 3).one(1 + 2 + 4)
                .one(1, 2, 3, 4, 5).one(6);
        lines(c, "a flag for four", of(sign), 1, 0, 3, 0, 6, 0, 10, 0, 5, -6);
        Bytes once = Sign.header(1).two(1, 0).one(1 + 16 + 32 + 8, 0).one(1 + 2 + 16 + 32).one(9);
        lines(c, "told for none behind", of(once), 0, 0, 9, 0);
        Bytes all = Sign.header(1).two(119, 0).one(1 + 16 + 32 + 8, 119);
        c.same("a flag for 120", of(all).run(0), 120);
    }

    private static void repeatedTooOften(Checks c) {
        for (int again = 1; again < 5; again++) {
            TrueOutlines x = of(Sign.header(1).two(2, 0).one(1 + 16 + 32 + 8, again).one(1 + 16 + 32).zeros(9));
            c.same("again " + again + " of 2", x.run(0), again <= 2 ? 3 : 0);
            if (again <= 2) {
                c.told("again " + again + " of 2", x);
            } else {
                c.told("again " + again + " of 2", x, 1, 0);
            }
        }
    }

    /** The flag of the last POINT but some has 8: all behind it, none of none, and one of none. */
    private static void repeatedAtTheEnd(Checks c) {
        int same = 1 + 16 + 32;
        for (int before = 0; before < 4; before++) {
            for (int again = 0; again < 5; again++) {
                Bytes sign = Sign.header(1).two(3, 0);
                for (int i = 0; i < before; i++) {
                    sign.one(same);
                }
                sign.one(same + 8, again);
                for (int i = before + again; i < 3; i++) {
                    sign.one(same);
                }
                TrueOutlines x = of(sign.zeros(4));
                boolean good = before + again <= 3;
                c.same(before + " before, again " + again, x.run(0), good ? 4 : 0);
                c.same(before + " before, again " + again + ": told", x.told(-1, 0), good ? 0 : 1);
            }
        }
        c.same("again 255", of(Sign.header(1).two(119, 0).one(same + 8, 255).zeros(9)).run(0), 0);
        c.same("again 120", of(Sign.header(1).two(119, 0).one(same + 8, 120).zeros(9)).run(0), 0);
        Bytes contours = Sign.header(2).two(1, 3, 0).one(same + 8, 3);
        TrueOutlines both = of(contours);
        c.same("over two contours", both.run(0), 4);
        c.same("count(4)", both.count(4), 2);
    }

    private static void passedBytes(Checks c) {
        Bytes sign = Sign.header(1).two(1, 3).one(255, 255, 255).one(1, 1).two(1, 1).two(2, 2);
        lines(c, "three bytes are passed", of(sign), 1, 2, 2, 4);
        Bytes beyond = Sign.header(0).two(3).one(1, 2);
        TrueOutlines x = of(beyond);
        c.same("not all are there", x.run(0), 0);
        c.told("not all are there", x, 1, 0);
        TrueOutlines y = of(Sign.header(0).two(3).one(1, 2, 3));
        c.same("all are there", y.run(0), 0);
        c.told("all are there", y);
        TrueOutlines z = of(Sign.header(1).two(0, 65535).one(1).two(1, 1));
        c.same("65535 of them", z.run(0), 0);
        c.told("65535 of them", z, 1, 0);
    }

    private static void emptySigns(Checks c) {
        TrueOutlines x = FontFile.of(Sign.row(2), Sign.EMPTY, Sign.row(3)).read();
        c.same("run(0)", x.run(0), 2);
        c.same("run(1), an empty one", x.run(1), 0);
        c.same("count(3)", x.count(3), 0);
        c.told("an empty one", x);
        c.same("run(2)", x.run(2), 3);
        TrueOutlines beyond = withLoca(FontFile.head(1, 1), new Bytes().four(900, 900).done(), 1);
        c.same("an empty one beyond glyf", beyond.run(0), 0);
        c.told("an empty one beyond glyf", beyond);
        TrueOutlines noGlyf = new FontFile().table("maxp", FontFile.maxp(1)).table("loca", new byte[4]).read();
        c.same("an empty one without glyf and head", noGlyf.run(0), 0);
        c.told("an empty one without glyf and head", noGlyf);
    }

    private static void noContours(Checks c) {
        TrueOutlines x = of(Sign.header(0).two(0));
        c.same("no contours", x.run(0), 0);
        c.told("no contours", x);
        TrueOutlines y = of(Sign.header(0).one(0));
        c.same("no contours, and TWO is past", y.run(0), 0);
        c.told("no contours, and TWO is past", y, 1, 0);
    }

    private static void contoursOutOfOrder(Checks c) {
        int[][] lasts = {{1, 1}, {1, 0}, {2, 1}, {0, 65535}, {65535, 0}, {1, 65535}};
        for (int[] last : lasts) {
            TrueOutlines x = of(Sign.header(2).two(last).two(0).zeros(60));
            c.same("contours up to " + Arrays.toString(last), x.run(0), 0);
            c.same("count(4)", x.count(4), 0);
            c.told("contours up to " + Arrays.toString(last), x, 1, 0);
        }
        TrueOutlines good = of(Sign.header(2).two(0, 1).two(0).zeros(60));
        good.run(0);
        c.same("contours up to [0, 1]", good.count(4), 2);
        c.told("contours up to [0, 1]", good);
        TrueOutlines many = of(Sign.header(32767).two(0, 1, 2, 3));
        c.same("32767 contours", many.run(0), 0);
        c.told("32767 contours", many, 1, 0);
    }

    private static void everyByteIsNeeded(Checks c) {
        byte[] whole = Sign.header(2).two(1, 3, 1).one(0).one(1 + 2 + 4, 1, 1 + 8, 1)
                .one(1).two(1, 1, 1).one(1).two(1, 1, 1).done();
        for (int size = 1; size <= whole.length; size++) {
            TrueOutlines x = FontFile.of(true, Arrays.copyOf(whole, size), Sign.row(9)).read();
            boolean good = size == whole.length;
            c.same("run(0) of " + size + " bytes", x.run(0), good ? 4 : 0);
            c.same("count(3) of " + size + " bytes", x.count(3), good ? 4 : 0);
            c.same("count(4) of " + size + " bytes", x.count(4), good ? 2 : 0);
            c.same("told of " + size + " bytes", x.told(-1, 0), good ? 0 : 1);
        }
    }

    private static void pointsAtMost(Checks c) {
        TrueOutlines x = FontFile.of(Sign.row(120), Sign.row(121)).read();
        c.same("120 points", x.run(0), 120);
        c.told("120 points", x);
        c.same("121 points", x.run(1), 0);
        c.same("count(3)", x.count(3), 0);
        c.told("121 points", x, 1, 1);
        Bytes dots = Sign.header(120);
        for (int i = 0; i < 120; i++) {
            dots.two(i);
        }
        TrueOutlines y = of(dots.two(0).one(1 + 16 + 32 + 8, 119));
        c.same("120 contours of one point have no pieces", y.run(0), 0);
        c.same("count(3)", y.count(3), 120);
        c.same("count(4)", y.count(4), 120);
        c.told("120 contours", y);
    }

    /** A file whose glyf has a row of two POINTS, 20 bytes, and the same once more. */
    private static TrueOutlines withLoca(byte[] head, byte[] loca, int signs) {
        byte[] glyf = new Bytes().all(Sign.row(2)).zeros(2).all(Sign.row(2)).done();
        return new FontFile().table("head", head).table("maxp", FontFile.maxp(signs))
                .table("loca", loca).table("glyf", glyf).read();
    }

    private static void places(Checks c) {
        int size = Sign.row(2).length;
        c.same("the test's own numbers", size, 18);
        byte[] twos = new Bytes().two(0, 9, 10, 19, 0, 60000, 10, 60000).done();
        TrueOutlines x = withLoca(FontFile.head(1, 0), twos, 9);
        int[] due = {2, 0, 2, 0, 2, 0, 2, 0, 0};
        int[] bad = {0, 1, 0, 1, 0, 1, 0, 1, 1};
        for (int i = 0; i < due.length; i++) {
            c.same("places of two bytes: run(" + i + ")", x.run(i), due[i]);
            c.same("places of two bytes: told of " + i, x.told(-1, 0), bad[i]);
        }
        byte[] fours = new Bytes().four(0, 18, 20, 38, 0, 0xFFFFFFFFL, 20, 19, 20, 37, 0xFFFFFFFFL).two(0).done();
        TrueOutlines y = withLoca(FontFile.head(1, 1), fours, 11);
        int[] dueToo = {2, 0, 2, 0, 2, 0, 0, 0, 0, 0, 0};
        int[] badToo = {0, 1, 0, 1, 0, 1, 1, 1, 1, 1, 1};
        for (int i = 0; i < dueToo.length; i++) {
            c.same("places of four bytes: run(" + i + ")", y.run(i), dueToo[i]);
            c.same("places of four bytes: told of " + i, y.told(-1, 0), badToo[i]);
        }
        TrueOutlines other = withLoca(FontFile.head(1, 257), new Bytes().two(0, 9).done(), 1);
        c.same("a form of 257 has places of two bytes", other.run(0), 2);
        TrueOutlines cut = withLoca(Arrays.copyOf(FontFile.head(1, 1), 51), new Bytes().two(0, 9).done(), 1);
        c.same("a head of 51 bytes has places of two bytes", cut.run(0), 2);
        TrueOutlines none = new FontFile().table("maxp", FontFile.maxp(1)).read();
        c.same("without loca", none.run(0), 0);
        c.told("without loca", none, 1, 0);
        TrueOutlines noGlyf = new FontFile().table("maxp", FontFile.maxp(1))
                .table("loca", new Bytes().two(0, 9).done()).read();
        c.same("without glyf", noGlyf.run(0), 0);
        c.told("without glyf", noGlyf, 1, 0);
    }

    /** Places of four bytes are told by 1 alone. */
    private static void formsOfLoca(Checks c) {
        int[] others = {0, 2, 3, 256, 257, 32768, 65535};
        for (int form : others) {
            TrueOutlines x = withLoca(FontFile.head(1, form), new Bytes().two(0, 9, 9, 9).done(), 1);
            c.same("form " + form, x.run(0), 2);
        }
        TrueOutlines y = withLoca(FontFile.head(1, 1), new Bytes().two(0, 0, 0, 18).done(), 1);
        c.same("form 1", y.run(0), 2);
        TrueOutlines z = withLoca(FontFile.head(1, 1), new Bytes().two(0, 9, 9, 9).done(), 1);
        c.same("form 1, places beyond", z.run(0), 0);
        c.told("form 1, places beyond", z, 1, 0);
        TrueOutlines exact = withLoca(Arrays.copyOf(FontFile.head(1, 1), 52), new Bytes().four(0, 18).done(), 1);
        c.same("a head of 52 bytes", exact.run(0), 2);
    }

    /** loca lies over the file's first bytes, 0, 0, 0, 0, 0, 4, 0, 0, so that glyf's first SIGN goes to its end. */
    private static void locaAtTheFilesBeginning(Checks c) {
        byte[] sign = Sign.row(2);
        byte[] file = new Bytes().four(0).two(4, 0, 0, 0).text("head").four(0, 76, 54).text("maxp").four(0, 130, 6)
                .text("loca").four(0, 0, 8).text("glyf").four(0, 136, sign.length)
                .all(FontFile.head(1, 1)).all(FontFile.maxp(1)).all(sign).done();
        TrueOutlines x = new TrueOutlines();
        FontFile.fill(x, file);
        c.same("read()", x.read(), 4);
        c.same("run(0)", x.run(0), 2);
        c.told("run(0)", x);
    }

    /** What is behind glyf in the file is PAST, though the SIGN's second place is beyond glyf. */
    private static void dataUpToTheEndOfGlyf(Checks c) {
        byte[] sign = Sign.row(2);
        for (int less = 0; less <= sign.length; less++) {
            TrueOutlines x = new FontFile().table("head", FontFile.head(1, 1)).table("maxp", FontFile.maxp(1))
                    .table("loca", new Bytes().four(0, 5000).done())
                    .table("glyf", Arrays.copyOf(sign, sign.length - less)).table("more", new byte[30]).read();
            c.same("run(0) of a glyf less " + less, x.run(0), less == 0 ? 2 : 0);
            c.same("told", x.told(-1, 0), less == 0 ? 0 : 1);
        }
    }

    private static void everyByteOfLocaIsNeeded(Checks c) {
        byte[] fours = new Bytes().four(0, 18).done();
        for (int size = 0; size <= fours.length; size++) {
            TrueOutlines x = withLoca(FontFile.head(1, 1), Arrays.copyOf(fours, size), 1);
            c.same("loca of " + size + " bytes, by four", x.run(0), size == 8 ? 2 : 0);
            c.same("told", x.told(-1, 0), size == 8 ? 0 : 1);
        }
        byte[] twos = new Bytes().two(0, 9).done();
        for (int size = 0; size <= twos.length; size++) {
            TrueOutlines x = withLoca(FontFile.head(1, 0), Arrays.copyOf(twos, size), 1);
            c.same("loca of " + size + " bytes, by two", x.run(0), size == 4 ? 2 : 0);
            c.same("told", x.told(-1, 0), size == 4 ? 0 : 1);
        }
    }

    private static void noSuchSign(Checks c) {
        TrueOutlines x = FontFile.of(Sign.row(2), new byte[2]).read();
        int[] wrong = {-1, 2, 200, 65536, Integer.MIN_VALUE, Integer.MAX_VALUE};
        for (int sign : wrong) {
            x.run(1);
            c.same("a bad sign is told", x.told(-1, 0), 1);
            x.run(0);
            c.same("run(" + sign + ")", x.run(sign), -1);
            c.same("count(3)", x.count(3), 0);
            c.same("count(4)", x.count(4), 0);
            c.told("run(" + sign + ")", x);
            c.fails("piece(0, 0)", IndexOutOfBoundsException.class, () -> x.piece(0, 0));
        }
    }

    private static void twoHundredSigns(Checks c) {
        byte[] loca = new byte[404];
        int[] signs = {198, 199, 200, 201, 65535};
        int[] most = {198, 199, 200, 200, 200};
        for (int i = 0; i < signs.length; i++) {
            TrueOutlines x = new FontFile().table("maxp", FontFile.maxp(signs[i])).table("loca", loca).read();
            c.same("the last of " + signs[i], x.run(most[i] - 1), 0);
            c.told("the last of " + signs[i], x);
            c.same("behind the last of " + signs[i], x.run(most[i]), -1);
        }
        TrueOutlines none = new FontFile().table("maxp", FontFile.maxp(0)).table("loca", loca).read();
        c.same("run(0) without signs", none.run(0), -1);
    }

    /** The greatest and the least steps, of a byte and of two, in x and in y. */
    private static void steps(Checks c) {
        Bytes bytes = Sign.header(1).two(3, 0).one(1 + 2 + 16 + 4 + 32, 1 + 2 + 4, 1 + 2 + 4 + 32, 1 + 2 + 16 + 4)
                .one(255, 255, 0, 128).one(128, 255, 255, 0);
        lines(c, "steps of a byte", of(bytes), 255, 128, 0, -127, 0, 128, 128, 128);
        Bytes twos = Sign.header(1).two(3, 0).one(1, 1, 1, 1)
                .two(32767, 32768, 65535, 1).two(32768, 32768, 32767, 0);
        lines(c, "steps of two", of(twos), 32767, -32768, -1, -65536, -2, -32769, -1, -32769);
    }

    private static void wrapping(Checks c) {
        Bytes sign = Sign.header(1).two(119, 0).one(1 + 32 + 8, 119);
        for (int i = 0; i < 120; i++) {
            sign.two(-32768);
        }
        TrueOutlines x = of(sign);
        c.same("run(0)", x.run(0), 120);
        c.same("the last one", x.piece(118, 6), 2 * -32768 * 120);
    }
}
