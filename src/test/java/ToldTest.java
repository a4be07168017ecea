/** Promise 10: told. */
public final class ToldTest {
    private static final Class<IndexOutOfBoundsException> NONE = IndexOutOfBoundsException.class;

    public static void main(String[] args) {
        Checks c = new Checks("ToldTest");
        sums(c);
        latest(c);
        hundredAtMost(c);
        wrongNumbers(c);
        c.end();
    }

    private static void sums(Checks c) {
        byte[] body = new Bytes().four(1, 2, 4).done();
        TrueOutlines x = new FontFile().table("aaaa", body, 7).table("bbbb", body, 6).table("head", body, 3)
                .table("head", body, 3).table("cccc", body, 0xFFFFFFFFL).table("dddd", new byte[0], 0).read();
        c.told("sums", x, 2, 1, 2, 3, 2, 4);
        TrueOutlines y = new FontFile().table("head", body, 7).read();
        c.told("a head whose sum has all its numbers", y, 2, 0);
        TrueOutlines z = new TrueOutlines();
        FontFile.fill(z, new Bytes().four(0).two(2, 0, 0, 0).text("aaaa").four(5, 0, 0)
                .text("bbbb").four(5, 0, 900).done());
        c.same("read()", z.read(), -2);
        c.told("nothing of tables that are none", z);
    }

    private static void latest(Checks c) {
        TrueOutlines x = FontFile.of(true, Sign.row(2), new byte[1]).table("abcd", new byte[0], 1).read();
        c.told("by read()", x, 2, 4);
        x.run(1);
        c.told("by run() of a bad one", x, 1, 1);
        x.cut(0);
        x.write();
        x.map(0);
        c.told("still", x, 1, 1);
        x.read();
        c.told("by read() behind a run()", x, 2, 4);
        x.run(0);
        c.told("by run() of a good one", x);
        x.read();
        c.told("by read() again", x, 2, 4);
        x.run(-1);
        c.told("by run() of none", x);
    }

    private static void hundredAtMost(Checks c) {
        byte[][] parts = new byte[101][];
        for (int i = 0; i < parts.length; i++) {
            parts[i] = Sign.moved(1000 + i, 0, 0);
        }
        TrueOutlines x = FontFile.of(true, Sign.composite(parts), Sign.composite(java.util.Arrays.copyOf(parts, 99)),
                new byte[1]).read();
        x.run(1);
        c.same("99", x.told(-1, 0), 99);
        x.run(0);
        c.same("101", x.told(-1, 0), 100);
        c.same("the last one", x.told(99, 1), 1099);
        c.fails("told(100, 0)", NONE, () -> x.told(100, 0));
        x.run(2);
        c.told("fewer behind more", x, 1, 2);
    }

    private static void wrongNumbers(Checks c) {
        TrueOutlines x = FontFile.of(true, new byte[1]).read();
        x.run(0);
        c.same("told(-1, 1)", x.told(-1, 1), 1);
        c.same("told(0, 0)", x.told(0, 0), 1);
        c.same("told(0, 1)", x.told(0, 1), 0);
        int[][] wrong = {{-2, 0}, {1, 0}, {0, -1}, {0, 2}, {Integer.MIN_VALUE, 0}, {Integer.MAX_VALUE, 1},
            {0, Integer.MIN_VALUE}, {0, Integer.MAX_VALUE}};
        for (int[] pair : wrong) {
            c.fails("told(" + pair[0] + ", " + pair[1] + ")", NONE, () -> x.told(pair[0], pair[1]));
        }
    }
}
