/** Promise 12: kern. */
public final class KernTest {
    public static void main(String[] args) {
        Checks c = new Checks("KernTest");
        rows(c);
        whatIsNotThere(c);
        everyByteOfARowIsNeeded(c);
        moreRowsThanAreTold(c);
        c.end();
    }

    private static TrueOutlines of(byte[] kern) {
        return new FontFile().table("maxp", FontFile.maxp(5)).table("kern", kern).read();
    }

    private static Bytes header(int rows) {
        return new Bytes().two(0, 1, 0, 99, 1, rows, 9, 9, 9);
    }

    private static void all(Checks c, String what, TrueOutlines x, int[][] due) {
        for (int[] row : due) {
            c.same(what + ": kern(" + row[0] + ", " + row[1] + ")", x.kern(row[0], row[1]), row[2]);
        }
    }

    private static void rows(Checks c) {
        byte[] kern = header(6).two(1, 2, 50, 2, 1, 32768, 0, 0, 65535, 1, 2, 60, 4, 3, 0, 4, 4, 32767)
                .two(3, 3, 77).done();
        all(c, "six rows", of(kern), new int[][] {{1, 2, 50}, {2, 1, -32768}, {0, 0, -1}, {4, 3, 0}, {4, 4, 32767},
            {3, 4, 0}, {1, 1, 0}, {3, 3, 0}, {-1, 0, 0}, {0, -1, 0}, {65537, 2, 0}, {1, 65538, 0},
            {Integer.MIN_VALUE, Integer.MAX_VALUE, 0}});
    }

    private static void everyByteOfARowIsNeeded(Checks c) {
        byte[] whole = header(2).two(0, 0, 5, 1, 2, 50).done();
        for (int size = 0; size <= whole.length; size++) {
            TrueOutlines x = of(java.util.Arrays.copyOf(whole, size));
            c.same("kern(1, 2) of " + size + " bytes", x.kern(1, 2), size == whole.length ? 50 : 0);
            c.same("kern(0, 0) of " + size + " bytes", x.kern(0, 0), size >= 24 ? 5 : 0);
        }
    }

    private static void moreRowsThanAreTold(Checks c) {
        for (int told = 0; told < 4; told++) {
            TrueOutlines x = of(header(told).two(1, 1, 10, 2, 2, 20, 3, 3, 30).done());
            for (int k = 1; k < 4; k++) {
                c.same(told + " rows: kern(" + k + ", " + k + ")", x.kern(k, k), k <= told ? 10 * k : 0);
            }
        }
        Bytes many = header(230);
        for (int i = 0; i < 230; i++) {
            many.two(i % 5, i, i - 100);
        }
        TrueOutlines x = of(many.done());
        c.same("the last one of 230 rows", x.kern(4, 229), 129);
        c.same("one below 0", x.kern(0, 0), -100);
    }

    private static void whatIsNotThere(Checks c) {
        byte[] cut = header(3).two(1, 2, 50, 2, 1).one(7).done();
        all(c, "the second row is cut", of(cut), new int[][] {{1, 2, 50}, {2, 1, 0}, {3, 3, 0}});
        all(c, "no rows are there", of(header(65535).done()), new int[][] {{0, 0, 0}, {9, 9, 0}, {-1, -1, 0}});
        byte[] none = header(0).two(1, 2, 50).done();
        all(c, "no rows", of(none), new int[][] {{1, 2, 0}});
        all(c, "11 bytes", of(new byte[11]), new int[][] {{0, 0, 0}});
        all(c, "no kern", new FontFile().table("maxp", FontFile.maxp(5)).read(), new int[][] {{0, 0, 0}, {-1, -1, 0}});
    }
}
