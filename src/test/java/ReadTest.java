/** Promise 3: read. */
public final class ReadTest {
    public static void main(String[] args) {
        Checks c = new Checks("ReadTest");
        twelveBytesAreNeeded(c);
        firstOneThatIsNotWhole(c);
        placesAndLengthsBeyondTheFile(c);
        twentyFourAtMost(c);
        readingAgain(c);
        firstOfATagCounts(c);
        c.end();
    }

    private static void twelveBytesAreNeeded(Checks c) {
        TrueOutlines x = new TrueOutlines();
        x.add(0, 8);
        x.add(0, 3);
        c.same("read() of 11 bytes", x.read(), -1);
        x.add(0, 1);
        c.same("read() of 12 bytes", x.read(), 0);
        c.same("count(0)", x.count(0), 0);
    }

    private static void firstOneThatIsNotWhole(Checks c) {
        byte[] behind = new FontFile().table("aaaa", new byte[5]).table("bbbb", new byte[3])
                .table("cccc", new byte[0]).bytes();
        growing(c, behind, new int[] {12, 27, 28, 43, 44, 59, 60, 64, 65, 67, 68},
                new int[] {-1, -1, -1, -1, -1, -1, -1, -1, -2, -2, 3});
        byte[] inside = new Bytes().four(65536).two(3, 0, 0, 0).text("aaaa").four(0, 0, 20)
                .text("bbbb").four(0, 44, 16).text("cccc").four(0, 2, 3).done();
        growing(c, inside, new int[] {12, 27, 28, 43, 44, 59, 60}, new int[] {-1, -1, -2, -2, -2, -2, 3});
        byte[] before = new Bytes().four(65536).two(3, 0, 0, 0).text("aaaa").four(0, 0, 20)
                .text("bbbb").four(0, 0, 28).text("cccc").four(0, 0, 61).one(7).done();
        growing(c, before, new int[] {19, 27, 28, 43, 44, 59, 60, 61}, new int[] {-1, -1, -2, -2, -3, -3, -3, 3});
    }

    private static void growing(Checks c, byte[] file, int[] sizes, int[] due) {
        TrueOutlines x = new TrueOutlines();
        int there = 0;
        for (int i = 0; i < sizes.length; i++) {
            FontFile.fill(x, java.util.Arrays.copyOfRange(file, there, sizes[i]));
            there = sizes[i];
            c.same("read() of " + there + " bytes", x.read(), due[i]);
            c.same("count(0) of " + there + " bytes", x.count(0), Math.max(0, due[i]));
        }
    }

    private static int readOne(long place, long length) {
        TrueOutlines x = new TrueOutlines();
        FontFile.fill(x, new Bytes().four(65536).two(1, 0, 0, 0).text("abcd").four(0, place, length)
                .zeros(4).done());
        return x.read();
    }

    private static void placesAndLengthsBeyondTheFile(Checks c) {
        c.same("up to the end", readOne(28, 4), 1);
        c.same("the whole file", readOne(0, 32), 1);
        c.same("one byte too many", readOne(28, 5), -1);
        c.same("none at the end", readOne(32, 0), 1);
        c.same("a place of 2^31", readOne(0x80000000L, 0), -1);
        c.same("a length of 2^31", readOne(0, 0x80000000L), -1);
        c.same("both wrap to 0", readOne(0xFFFFFFFFL, 1), -1);
        c.same("both are 2^31", readOne(0x80000000L, 0x80000000L), -1);
    }

    private static void twentyFourAtMost(Checks c) {
        FontFile file = new FontFile();
        for (int i = 0; i < 23; i++) {
            file.table("aaaa", new byte[0]);
        }
        file.table("bbbb", new Bytes().one(7).done());
        TrueOutlines x = file.read();
        c.same("24 tables", x.count(0), 24);
        c.same("octet(23, 0)", x.octet(23, 0), 7);
        file.table("maxp", FontFile.maxp(3)).table("cccc", new byte[1], 99);
        byte[] bytes = file.bytes();
        TrueOutlines y = new TrueOutlines();
        FontFile.fill(y, bytes);
        c.same("26 tables", y.read(), 24);
        c.same("count(1): maxp is not read", y.count(1), 0);
        c.told("sums of tables that are not read", y);
        c.fails("octet(24, 0)", ArrayIndexOutOfBoundsException.class, () -> y.octet(24, 0));
    }

    private static void readingAgain(Checks c) {
        TrueOutlines x = FontFile.of(Sign.row(3), Sign.row(2)).read();
        x.run(0);
        x.cut(0);
        c.same("count(2)", x.count(2), 1);
        c.same("read()", x.read(), 4);
        c.same("count(2) behind read()", x.count(2), 0);
        c.same("count(3) is of the latest run() still", x.count(3), 3);
        c.same("piece(0, 6) is of the latest run() still", x.piece(0, 6), 2);
        c.same("cut(0)", x.cut(0), 1);
        c.same("add(1, 1)", x.add(1, 1) > 0 ? 1 : 0, 1);
        c.same("count(2) behind add()", x.count(2), 1);
        c.same("run(1) behind add()", x.run(1), 2);
    }

    private static void firstOfATagCounts(Checks c) {
        TrueOutlines x = new FontFile().table("maxp", FontFile.maxp(3)).table("maxp", FontFile.maxp(5)).read();
        c.same("count(1) by the first maxp", x.count(1), 3);
        TrueOutlines y = new FontFile().table("maxp", new byte[0]).table("maxp", FontFile.maxp(5)).read();
        c.same("count(1) by an empty first maxp", y.count(1), 0);
    }
}
