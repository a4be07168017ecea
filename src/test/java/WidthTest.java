/** Promise 11: width. */
public final class WidthTest {
    public static void main(String[] args) {
        Checks c = new Checks("WidthTest");
        widths(c);
        whatIsNotThere(c);
        atTheFilesBeginning(c);
        twoHundredSigns(c);
        c.end();
    }

    private static FontFile file(int widths, byte[] hmtx) {
        return new FontFile().table("maxp", FontFile.maxp(5)).table("hhea", FontFile.hhea(widths)).table("hmtx", hmtx);
    }

    private static void all(Checks c, String what, TrueOutlines x, int... due) {
        for (int i = 0; i < due.length; i++) {
            c.same(what + ": width(" + i + ")", x.width(i), due[i]);
        }
        int[] none = {-1, 5, 200, Integer.MIN_VALUE, Integer.MAX_VALUE};
        for (int sign : none) {
            c.same(what + ": width(" + sign + ")", x.width(sign), 0);
        }
    }

    private static void widths(Checks c) {
        byte[] hmtx = new Bytes().two(10, 1, 65535, 2, 300, 3, 7, 8, 9, 10, 11, 12).done();
        all(c, "three widths", file(3, hmtx).read(), 10, 65535, 300, 300, 300);
        all(c, "one width", file(1, hmtx).read(), 10, 10, 10, 10, 10);
        all(c, "no widths", file(0, hmtx).read(), 0, 0, 0, 0, 0);
        all(c, "five widths", file(5, hmtx).read(), 10, 65535, 300, 7, 9);
        all(c, "more widths than signs", file(65535, hmtx).read(), 10, 65535, 300, 7, 9);
    }

    /** maxp and hmtx lie over the file's first bytes: 1, 0, 3, 0, .. */
    private static void atTheFilesBeginning(Checks c) {
        TrueOutlines x = new TrueOutlines();
        FontFile.fill(x, new Bytes().four(65536).two(3, 0, 0, 0).text("maxp").four(0, 0, 6)
                .text("hmtx").four(0, 0, 12).text("hhea").four(0, 60, 36).all(FontFile.hhea(2)).done());
        c.same("read()", x.read(), 3);
        c.same("width(0)", x.width(0), 1);
        c.same("width(1)", x.width(1), 3);
        c.same("width(3)", x.width(3), 0);
    }

    private static void twoHundredSigns(Checks c) {
        Bytes hmtx = new Bytes();
        for (int i = 0; i < 202; i++) {
            hmtx.two(1000 + i, 9);
        }
        TrueOutlines x = new FontFile().table("maxp", FontFile.maxp(202)).table("hhea", FontFile.hhea(202))
                .table("hmtx", hmtx.done()).read();
        c.same("width(198)", x.width(198), 1198);
        c.same("width(199)", x.width(199), 1199);
        c.same("width(200), which is no sign any more", x.width(200), 0);
    }

    private static void whatIsNotThere(Checks c) {
        byte[] cut = new Bytes().two(10, 1, 20, 2).one(3).done();
        all(c, "hmtx is cut", file(3, cut).read(), 10, 20, 0, 0, 0);
        byte[] enough = new Bytes().two(10, 1, 20).done();
        all(c, "the last width without what is behind it", file(2, enough).read(), 10, 20, 20, 20, 20);
        for (int size = 0; size <= 2; size++) {
            all(c, "hmtx of " + size + " bytes", file(1, java.util.Arrays.copyOf(enough, size)).read(),
                    size < 2 ? new int[5] : new int[] {10, 10, 10, 10, 10});
        }
        byte[] exact = new Bytes().zeros(34).two(2).done();
        TrueOutlines x = new FontFile().table("maxp", FontFile.maxp(5)).table("hhea", exact).table("hmtx", enough).read();
        all(c, "hhea of 36 bytes", x, 10, 20, 20, 20, 20);
        TrueOutlines y = new FontFile().table("hhea", exact).table("hmtx", enough).read();
        c.same("no maxp", y.width(0), 0);
        FontFile maxp = new FontFile().table("maxp", FontFile.maxp(5));
        all(c, "no hhea", maxp.table("hmtx", enough).read(), 0, 0, 0, 0, 0);
        byte[] shortHhea = java.util.Arrays.copyOf(FontFile.hhea(1), 35);
        all(c, "hhea of 35 bytes", maxp.table("hhea", shortHhea).read(), 0, 0, 0, 0, 0);
        FontFile noHmtx = new FontFile().table("maxp", FontFile.maxp(5)).table("hhea", FontFile.hhea(1));
        all(c, "no hmtx", noHmtx.read(), 0, 0, 0, 0, 0);
    }
}
