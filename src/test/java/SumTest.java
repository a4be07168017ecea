/** Promise 5: sum. */
public final class SumTest {
    public static void main(String[] args) {
        Checks c = new Checks("SumTest");
        sums(c);
        moduloTwoToThe32(c);
        behindARead(c);
        heads(c);
        shortHeads(c);
        c.end();
    }

    private static void sums(Checks c) {
        TrueOutlines x = new FontFile().table("aaaa", new Bytes().four(1, 2, 3).done())
                .table("bbbb", new byte[0])
                .table("cccc", new Bytes().four(1).one(2).done())
                .table("dddd", new Bytes().one(1, 2).done())
                .table("eeee", new Bytes().one(1, 2, 3).done())
                .table("ffff", new Bytes().four(0xFFFFFFFFL, 0xFFFFFFFFL, 5).done()).read();
        c.same("sum(0)", x.sum(0), 6);
        c.same("sum(1)", x.sum(1), 0);
        c.same("sum(2)", x.sum(2), 0x02000001L);
        c.same("sum(3)", x.sum(3), 0x01020000L);
        c.same("sum(4)", x.sum(4), 0x01020300L);
        c.same("sum(5)", x.sum(5), 3);
        c.same("sum(6)", x.sum(6), -1);
        c.same("sum(-1)", x.sum(-1), -1);
        c.same("sum(least)", x.sum(Integer.MIN_VALUE), -1);
        c.same("sum(greatest)", x.sum(Integer.MAX_VALUE), -1);
    }

    private static void moduloTwoToThe32(Checks c) {
        TrueOutlines x = new FontFile().table("aaaa", new Bytes().four(0xFFFFFFFFL, 1).done())
                .table("bbbb", new Bytes().four(0xFFFFFFFFL).done())
                .table("cccc", new Bytes().four(0x80000000L).done())
                .table("dddd", new Bytes().four(0x7FFFFFFFL, 1).done())
                .table("eeee", new Bytes().four(0xFFFFFFFFL, 0).one(0, 0, 1).done()).read();
        c.same("2^32", x.sum(0), 0);
        c.same("2^32 - 1", x.sum(1), 0xFFFFFFFFL);
        c.same("2^31", x.sum(2), 0x80000000L);
        c.same("2^31 of two", x.sum(3), 0x80000000L);
        c.same("zeros behind the end", x.sum(4), 255);
        c.told("all as they are told", x);
    }

    private static void behindARead(Checks c) {
        TrueOutlines x = new FontFile().table("aaaa", new Bytes().one(1).done()).read();
        x.add(-1, 8);
        c.same("bytes behind a table are not of it", x.sum(0), 0x01000000L);
        TrueOutlines y = new TrueOutlines();
        y.add(0, 8);
        y.add(0, 4);
        y.read();
        c.same("a file without tables", y.sum(0), -1);
    }

    private static void heads(Checks c) {
        byte[] body = new Bytes().four(1, 2, 4, 8, 0xF0000000L).done();
        TrueOutlines x = new FontFile().table("aaaa", body).table("head", body).table("head", body).read();
        c.same("sum of another table", x.sum(0), 0xF000000FL);
        c.same("sum of the head that counts", x.sum(1), 0xF000000BL);
        c.same("sum of another head", x.sum(2), 0xF000000FL);
    }

    private static void shortHeads(Checks c) {
        TrueOutlines x = new FontFile().table("head", new Bytes().four(1, 2).one(7, 7).done()).read();
        c.same("sum of a head of 10 bytes", x.sum(0), 3);
        TrueOutlines y = new FontFile().table("head", new Bytes().four(1, 2, 4).one(7).done()).read();
        c.same("sum of a head of 13 bytes", y.sum(0), 0x07000003L);
        TrueOutlines z = new FontFile().table("head", new Bytes().four(1).one(7).done()).read();
        c.same("sum of a head of 5 bytes", z.sum(0), 0x07000001L);
        TrueOutlines w = new FontFile().table("head", new Bytes().four(1, 2, 4).done()).read();
        c.same("sum of a head of 12 bytes", w.sum(0), 3);
        TrueOutlines v = new FontFile().table("head", new Bytes().four(1, 2).done()).read();
        c.same("sum of a head of 8 bytes", v.sum(0), 3);
        TrueOutlines u = new FontFile().table("head", new Bytes().four(1, 2).one(4).done()).read();
        c.same("sum of a head of 9 bytes", u.sum(0), 3);
        TrueOutlines t = new FontFile().table("head", new byte[0])
                .table("head", new Bytes().four(1, 2, 4).done()).read();
        c.same("sum of a head behind an empty one", t.sum(1), 7);
    }
}
