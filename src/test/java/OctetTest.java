/** Promise 4: octet. */
public final class OctetTest {
    private static final Class<ArrayIndexOutOfBoundsException> NONE = ArrayIndexOutOfBoundsException.class;

    public static void main(String[] args) {
        Checks c = new Checks("OctetTest");
        TrueOutlines x = new FontFile().table("aaaa", new Bytes().one(1, 128, 255).done())
                .table("bbbb", new byte[0]).table("cccc", new Bytes().one(9).done()).read();
        c.same("octet(0, 0)", x.octet(0, 0), 1);
        c.same("octet(0, 1)", x.octet(0, 1), 128);
        c.same("octet(0, 2)", x.octet(0, 2), 255);
        c.same("octet(2, 0)", x.octet(2, 0), 9);
        c.fails("octet(0, 3)", NONE, () -> x.octet(0, 3));
        c.fails("octet(0, -1)", NONE, () -> x.octet(0, -1));
        c.fails("octet(0, least)", NONE, () -> x.octet(0, Integer.MIN_VALUE));
        c.fails("octet(0, greatest)", NONE, () -> x.octet(0, Integer.MAX_VALUE));
        c.fails("octet(1, 0)", NONE, () -> x.octet(1, 0));
        c.fails("octet(2, -1)", NONE, () -> x.octet(2, -1));
        c.fails("octet(3, 0)", NONE, () -> x.octet(3, 0));
        c.fails("octet(-1, 0)", NONE, () -> x.octet(-1, 0));
        c.fails("octet(least, 0)", NONE, () -> x.octet(Integer.MIN_VALUE, 0));
        c.fails("octet(greatest, 0)", NONE, () -> x.octet(Integer.MAX_VALUE, 0));
        c.end();
    }
}
