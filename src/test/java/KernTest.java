/** Promise 12: kern. */
public final class KernTest {
    public static void main(String[] args) {
        Checks c = new Checks("KernTest");
        rows(c);
        whatIsNotThere(c);
        c.end();
    }

    private static TrueOutlines of(byte[] kern) {
        return new FontFile().table("maxp", FontFile.maxp(5)).table("kern", kern).read();
    }

    private static Bytes header(int rows) {
        return new Bytes().two(0, 1, 0, 99, 1, rows, 9, 9, 9);
    }

    private static void all(Checks c, String what, TrueOutlines x, int[][] due) {
        for (int[] row : due) {
            c.same(what + ": kern(" + row[0] + ", " + row[1] + ")", x.kern(row[0], row[1]), row[2]);
        }
    }

    private static void rows(Checks c) {
        byte[] kern = header(6).two(1, 2, 50, 2, 1, 32768, 0, 0, 65535, 1, 2, 60, 4, 3, 0, 4, 4, 32767)
                .two(3, 3, 77).done();
        all(c, "six rows", of(kern), new int[][] {{1, 2, 50}, {2, 1, -32768}, {0, 0, -1}, {4, 3, 0}, {4, 4, 32767},
            {3, 4, 0}, {1, 1, 0}, {3, 3, 0}, {-1, 0, 0}, {0, -1, 0}, {65537, 2, 0}, {1, 65538, 0},
            {Integer.MIN_VALUE, Integer.MAX_VALUE, 0}});
    }

    private static void whatIsNotThere(Checks c) {
        byte[] cut = header(3).two(1, 2, 50, 2, 1).one(7).done();
        all(c, "the second row is cut", of(cut), new int[][] {{1, 2, 50}, {2, 1, 0}, {3, 3, 0}});
        all(c, "no rows are there", of(header(65535).done()), new int[][] {{0, 0, 0}, {9, 9, 0}, {-1, -1, 0}});
        byte[] none = header(0).two(1, 2, 50).done();
        all(c, "no rows", of(none), new int[][] {{1, 2, 0}});
        all(c, "11 bytes", of(new byte[11]), new int[][] {{0, 0, 0}});
        all(c, "no kern", new FontFile().table("maxp", FontFile.maxp(5)).read(), new int[][] {{0, 0, 0}, {-1, -1, 0}});
    }
}
