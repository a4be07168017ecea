/** Promise 10: told. */
public final class ToldTest {
    private static final Class<IndexOutOfBoundsException> NONE = IndexOutOfBoundsException.class;

    public static void main(String[] args) {
        Checks c = new Checks("ToldTest");
        sums(c);
        latest(c);
        hundredAtMost(c);
        everyKind(c);
        sumsOfAllTables(c);
        wrongNumbers(c);
        c.end();
    }

    private static void sums(Checks c) {
        byte[] body = new Bytes().four(1, 2, 4).done();
        TrueOutlines x = new FontFile().table("aaaa", body, 7).table("bbbb", body, 6).table("head", body, 3)
                .table("head", body, 3).table("cccc", body, 0xFFFFFFFFL).table("dddd", new byte[0], 0).read();
        c.told("sums", x, 2, 1, 2, 3, 2, 4);
        TrueOutlines y = new FontFile().table("head", body, 7).read();
        c.told("a head whose sum has all its numbers", y, 2, 0);
        TrueOutlines z = new TrueOutlines();
        FontFile.fill(z, new Bytes().four(0).two(2, 0, 0, 0).text("aaaa").four(5, 0, 0)
                .text("bbbb").four(5, 0, 900).done());
        c.same("read()", z.read(), -2);
        c.told("nothing of tables that are none", z);
    }

    private static void latest(Checks c) {
        TrueOutlines x = FontFile.of(true, Sign.row(2), new byte[1]).table("abcd", new byte[0], 1).read();
        c.told("by read()", x, 2, 4);
        x.run(1);
        c.told("by run() of a bad one", x, 1, 1);
        x.cut(0);
        x.write();
        x.map(0);
        c.told("still", x, 1, 1);
        x.read();
        c.told("by read() behind a run()", x, 2, 4);
        x.run(0);
        c.told("by run() of a good one", x);
        x.read();
        c.told("by read() again", x, 2, 4);
        x.run(-1);
        c.told("by run() of none", x);
    }

    private static void hundredAtMost(Checks c) {
        byte[][] parts = new byte[101][];
        for (int i = 0; i < parts.length; i++) {
            parts[i] = Sign.moved(1000 + i, 0, 0);
        }
        TrueOutlines x = FontFile.of(true, Sign.composite(parts), Sign.composite(java.util.Arrays.copyOf(parts, 99)),
                new byte[1]).read();
        x.run(1);
        c.same("99", x.told(-1, 0), 99);
        c.fails("told(99, 0) of 99", NONE, () -> x.told(99, 0));
        TrueOutlines y = FontFile.of(true, Sign.composite(java.util.Arrays.copyOf(parts, 100))).read();
        y.run(0);
        c.same("100", y.told(-1, 0), 100);
        c.same("the last of 100", y.told(99, 1), 1099);
        x.run(0);
        c.same("101", x.told(-1, 0), 100);
        c.same("the last one", x.told(99, 1), 1099);
        c.fails("told(100, 0)", NONE, () -> x.told(100, 0));
        x.run(2);
        c.told("fewer behind more", x, 1, 2);
    }

    /** All in the order in which it comes; a SIGN that is BAD is TOLD behind what its PARTS told. */
    private static void everyKind(Checks c) {
        byte[] bad = Sign.composite(Sign.moved(77, 0, 0), Sign.joined(0, 5, 0), Sign.moved(1, 0, 0));
        bad[bad.length - 5] |= 32;
        TrueOutlines x = FontFile.of(true, Sign.row(2), new byte[1], bad,
                Sign.composite(Sign.moved(2, 0, 0), Sign.moved(3, 0, 0))).read();
        c.same("run(3)", x.run(3), 0);
        c.told("run(3)", x, 4, 77, 3, 0, 1, 1, 1, 2, 4, 3);
        c.same("run(2)", x.run(2), 0);
        c.told("run(2)", x, 4, 77, 3, 0, 1, 1, 1, 2);
    }

    private static void sumsOfAllTables(Checks c) {
        FontFile file = new FontFile();
        int[] due = new int[48];
        for (int i = 0; i < 24; i++) {
            file.table("aaaa", new byte[0], 1 + i);
            due[2 * i] = 2;
            due[2 * i + 1] = i;
        }
        TrueOutlines x = file.read();
        c.told("24 wrong sums", x, due);
        c.same("nothing is told twice", x.read(), 24);
        c.told("24 wrong sums, read again", x, due);
    }

    private static void wrongNumbers(Checks c) {
        TrueOutlines x = FontFile.of(true, new byte[1]).read();
        x.run(0);
        c.same("told(-1, 1)", x.told(-1, 1), 1);
        c.same("told(0, 0)", x.told(0, 0), 1);
        c.same("told(0, 1)", x.told(0, 1), 0);
        int[][] wrong = {{-2, 0}, {1, 0}, {0, -1}, {0, 2}, {Integer.MIN_VALUE, 0}, {Integer.MAX_VALUE, 1},
            {0, Integer.MIN_VALUE}, {0, Integer.MAX_VALUE}};
        for (int[] pair : wrong) {
            c.fails("told(" + pair[0] + ", " + pair[1] + ")", NONE, () -> x.told(pair[0], pair[1]));
        }
    }
}
