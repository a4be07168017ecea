/** Promise 3: read. */
public final class ReadTest {
    public static void main(String[] args) {
        Checks c = new Checks("ReadTest");
        twelveBytesAreNeeded(c);
        firstOneThatIsNotWhole(c);
        placesAndLengthsBeyondTheFile(c);
        twentyFourAtMost(c);
        rowsBeyondTheTwentyFour(c);
        noneAreThereBehindAWrongOne(c);
        readingAgain(c);
        firstOfATagCounts(c);
        firstOfEveryTagCounts(c);
        tagsOfOtherLetters(c);
        c.end();
    }

    private static void twelveBytesAreNeeded(Checks c) {
        TrueOutlines x = new TrueOutlines();
        x.add(0, 8);
        x.add(0, 3);
        c.same("read() of 11 bytes", x.read(), -1);
        x.add(0, 1);
        c.same("read() of 12 bytes", x.read(), 0);
        c.same("count(0)", x.count(0), 0);
    }

    private static void firstOneThatIsNotWhole(Checks c) {
        byte[] behind = new FontFile().table("aaaa", new byte[5]).table("bbbb", new byte[3])
                .table("cccc", new byte[0]).bytes();
        growing(c, behind, new int[] {12, 27, 28, 43, 44, 59, 60, 64, 65, 67, 68},
                new int[] {-1, -1, -1, -1, -1, -1, -1, -1, -2, -2, 3});
        byte[] inside = new Bytes().four(65536).two(3, 0, 0, 0).text("aaaa").four(0, 0, 20)
                .text("bbbb").four(0, 44, 16).text("cccc").four(0, 2, 3).done();
        growing(c, inside, new int[] {12, 27, 28, 43, 44, 59, 60}, new int[] {-1, -1, -2, -2, -2, -2, 3});
        byte[] before = new Bytes().four(65536).two(3, 0, 0, 0).text("aaaa").four(0, 0, 20)
                .text("bbbb").four(0, 0, 28).text("cccc").four(0, 0, 61).one(7).done();
        growing(c, before, new int[] {19, 27, 28, 43, 44, 59, 60, 61}, new int[] {-1, -1, -2, -2, -3, -3, -3, 3});
    }

    private static void growing(Checks c, byte[] file, int[] sizes, int[] due) {
        TrueOutlines x = new TrueOutlines();
        int there = 0;
        for (int i = 0; i < sizes.length; i++) {
            FontFile.fill(x, java.util.Arrays.copyOfRange(file, there, sizes[i]));
            there = sizes[i];
            c.same("read() of " + there + " bytes", x.read(), due[i]);
            c.same("count(0) of " + there + " bytes", x.count(0), Math.max(0, due[i]));
        }
    }

    private static int readOne(long place, long length) {
        TrueOutlines x = new TrueOutlines();
        FontFile.fill(x, new Bytes().four(65536).two(1, 0, 0, 0).text("abcd").four(0, place, length)
                .zeros(4).done());
        return x.read();
    }

    private static void placesAndLengthsBeyondTheFile(Checks c) {
        c.same("up to the end", readOne(28, 4), 1);
        c.same("the whole file", readOne(0, 32), 1);
        c.same("one byte too many", readOne(28, 5), -1);
        c.same("none at the end", readOne(32, 0), 1);
        c.same("a place of 2^31", readOne(0x80000000L, 0), -1);
        c.same("a length of 2^31", readOne(0, 0x80000000L), -1);
        c.same("both wrap to 0", readOne(0xFFFFFFFFL, 1), -1);
        c.same("both are 2^31", readOne(0x80000000L, 0x80000000L), -1);
    }

    private static void twentyFourAtMost(Checks c) {
        FontFile file = new FontFile();
        for (int i = 0; i < 23; i++) {
            file.table("aaaa", new byte[0]);
        }
        file.table("bbbb", new Bytes().one(7).done());
        TrueOutlines x = file.read();
        c.same("24 tables", x.count(0), 24);
        c.same("octet(23, 0)", x.octet(23, 0), 7);
        file.table("maxp", FontFile.maxp(3)).table("cccc", new byte[1], 99);
        byte[] bytes = file.bytes();
        TrueOutlines y = new TrueOutlines();
        FontFile.fill(y, bytes);
        c.same("26 tables", y.read(), 24);
        c.same("count(1): maxp is not read", y.count(1), 0);
        c.told("sums of tables that are not read", y);
        c.fails("octet(24, 0)", ArrayIndexOutOfBoundsException.class, () -> y.octet(24, 0));
    }

    /** As many rows of empty TABLES as told, and how many there should be by TWO at 4. */
    private static int readRows(int told, int rows, int fewer) {
        Bytes file = new Bytes().four(65536).two(told, 0, 0, 0);
        for (int i = 0; i < rows; i++) {
            file.text("aaaa").four(0, 0, 0);
        }
        TrueOutlines x = new TrueOutlines();
        FontFile.fill(x, java.util.Arrays.copyOf(file.done(), file.size() - fewer));
        return x.read();
    }

    private static void rowsBeyondTheTwentyFour(Checks c) {
        c.same("23 of 23", readRows(23, 23, 0), 23);
        c.same("23 of 24 rows", readRows(24, 23, 0), -24);
        c.same("24 rows less a byte", readRows(24, 24, 1), -24);
        c.same("24 of 24 rows", readRows(24, 24, 0), 24);
        c.same("24 of 25 rows", readRows(25, 24, 0), 24);
        c.same("24 of 65535 rows", readRows(65535, 24, 0), 24);
        c.same("23 of 65535 rows", readRows(65535, 23, 0), -24);
        c.same("more rows than are told", readRows(3, 24, 0), 3);
        c.same("256 rows are told in the higher byte", readRows(256, 1, 0), -2);
        c.same("none of none", readRows(0, 0, 0), 0);
    }

    private static void noneAreThereBehindAWrongOne(Checks c) {
        Bytes file = new Bytes().four(65536).two(3, 0, 0, 0).text("maxp").four(9, 0, 12)
                .text("head").four(9, 0, 60).text("abcd").four(9, 0, 61);
        TrueOutlines x = new TrueOutlines();
        FontFile.fill(x, file.done());
        c.same("read()", x.read(), -3);
        c.same("count(0)", x.count(0), 0);
        c.same("count(1)", x.count(1), 0);
        c.same("sum(0)", x.sum(0), -1);
        c.same("run(0)", x.run(0), -1);
        c.same("cut(0)", x.cut(0), -1);
        c.same("scaled(1, 1000)", x.scaled(1, 1000), 0);
        c.fails("octet(0, 0)", ArrayIndexOutOfBoundsException.class, () -> x.octet(0, 0));
        x.read();
        c.told("no sums", x);
        x.add(0, 1);
        c.same("read() of one byte more", x.read(), 3);
        c.same("count(1) of one byte more", x.count(1), 3);
        c.told("all sums", x, 2, 0, 2, 1, 2, 2);
    }

    private static void readingAgain(Checks c) {
        TrueOutlines x = FontFile.of(Sign.row(3), Sign.row(2)).read();
        x.run(0);
        x.cut(0);
        c.same("count(2)", x.count(2), 1);
        c.same("read()", x.read(), 4);
        c.same("count(2) behind read()", x.count(2), 0);
        c.same("count(3) is of the latest run() still", x.count(3), 3);
        c.same("piece(0, 6) is of the latest run() still", x.piece(0, 6), 2);
        c.same("cut(0)", x.cut(0), 1);
        c.same("add(1, 1)", x.add(1, 1) > 0 ? 1 : 0, 1);
        c.same("count(2) behind add()", x.count(2), 1);
        c.same("run(1) behind add()", x.run(1), 2);
    }

    private static void firstOfATagCounts(Checks c) {
        TrueOutlines x = new FontFile().table("maxp", FontFile.maxp(3)).table("maxp", FontFile.maxp(5)).read();
        c.same("count(1) by the first maxp", x.count(1), 3);
        TrueOutlines y = new FontFile().table("maxp", new byte[0]).table("maxp", FontFile.maxp(5)).read();
        c.same("count(1) by an empty first maxp", y.count(1), 0);
    }

    /** All that a file tells: each by another TABLE. */
    private static FontFile telling(FontFile file, int times) {
        byte[] cmap = new Bytes().two(0, 1, 0, 0).four(12).two(6, 0, 0, 65, 1, times).done();
        byte[] kern = new Bytes().two(0, 0, 0, 0, 0, 1, 0, 0, 0, 1, 2, 10 * times).done();
        byte[] glyf = Sign.row(2 * times);
        byte[] loca = new Bytes().two(0, glyf.length / 2, glyf.length / 2, glyf.length / 2).done();
        return file.table("head", FontFile.head(64 * times, 0)).table("maxp", FontFile.maxp(3))
                .table("hhea", FontFile.hhea(times)).table("hmtx", new Bytes().two(100 * times, 0, 300, 0).done())
                .table("cmap", cmap).table("kern", kern).table("loca", loca).table("glyf", glyf);
    }

    private static void firstOfEveryTagCounts(Checks c) {
        TrueOutlines x = telling(telling(new FontFile(), 1), 2).read();
        c.same("count(0)", x.count(0), 16);
        c.same("map(65) by the first cmap", x.map(65), 1);
        c.same("kern(1, 2) by the first kern", x.kern(1, 2), 10);
        c.same("width(0) by the first hmtx", x.width(0), 100);
        c.same("width(1) by the first hhea", x.width(1), 100);
        c.same("scaled(1, 1) by the first head", x.scaled(1, 1), 1);
        c.same("run(0) by the first glyf and loca", x.run(0), 2);
        String[] tags = {"head", "maxp", "hhea", "hmtx", "cmap", "kern", "loca", "glyf"};
        for (String tag : tags) {
            TrueOutlines y = telling(new FontFile().table(tag, new byte[0]), 2).read();
            boolean noSigns = tag.equals("maxp");
            boolean noGlyf = tag.equals("glyf") || tag.equals("loca");
            c.same("an empty " + tag + ": count(1)", y.count(1), noSigns ? 0 : 3);
            c.same("an empty " + tag + ": map(65)", y.map(65), noSigns || tag.equals("cmap") ? 0 : 2);
            c.same("an empty " + tag + ": kern(1, 2)", y.kern(1, 2), tag.equals("kern") ? 0 : 20);
            c.same("an empty " + tag + ": scaled(2, 1)", y.scaled(2, 1), tag.equals("head") ? 0 : 1);
            c.same("an empty " + tag + ": run(0)", y.run(0), noSigns ? -1 : noGlyf ? 0 : 4);
            c.same("an empty " + tag + ": width(0)", y.width(0),
                    noSigns || tag.equals("hhea") || tag.equals("hmtx") ? 0 : 200);
        }
    }

    private static void tagsOfOtherLetters(Checks c) {
        String[] others = {"Maxp", "maxP", "nbxp", " maxp".substring(0, 4), "\u00edaxp"};
        for (String tag : others) {
            TrueOutlines x = new FontFile().table(tag, FontFile.maxp(5)).table("maxp", FontFile.maxp(3)).read();
            c.same("count(1) behind " + tag, x.count(1), 3);
        }
    }
}
