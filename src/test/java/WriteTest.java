import java.util.Arrays;

/** Promises 15 and 16: write, and at. */
public final class WriteTest {
    public static void main(String[] args) {
        Checks c = new Checks("WriteTest");
        wholeFile(c);
        longPlaces(c);
        nothingIsUsed(c);
        badPlaces(c);
        tablesOfOneTag(c);
        tagsAsBytes(c);
        noSigns(c);
        sizeAtMost(c);
        sizeOfLoca(c);
        farPlaces(c);
        twoHundredSigns(c);
        moreTablesThanAreRead(c);
        zerosBehindOddData(c);
        usedSignsThatAreBadOtherwise(c);
        writingTwice(c);
        sumsThatWrap(c);
        whatMustBeThere(c);
        whatWasWrittenStays(c);
        writtenFileIsRead(c);
        at(c);
        c.end();
    }

    private static byte[] written(TrueOutlines x, int size) {
        byte[] bytes = new byte[size];
        for (int i = 0; i < size; i++) {
            bytes[i] = (byte) x.at(i);
        }
        return bytes;
    }

    /** Compares what was written with what is due: tables by rows of tag and body, in their order. */
    private static void compare(Checks c, String what, TrueOutlines x, Object... tables) {
        int n = tables.length / 2;
        Bytes rows = new Bytes().four(65536).two(n).two(1, 2, 3);
        Bytes body = new Bytes();
        int head = -1;
        int start = 12 + 16 * n;
        for (int i = 0; i < n; i++) {
            String tag = (String) tables[2 * i];
            byte[] bytes = ((byte[]) tables[2 * i + 1]).clone();
            if (tag.equals("head") && head < 0) {
                head = start + body.size();
                Arrays.fill(bytes, 8, 12, (byte) 0);
            }
            rows.text(tag).four(FontFile.sumOf(bytes, false), start + body.size(), bytes.length);
            body.all(bytes).zeros((4 - bytes.length % 4) % 4);
        }
        byte[] due = rows.all(body.done()).done();
        long sum = 2981146554L - FontFile.sumOf(due, false);
        System.arraycopy(new Bytes().four(sum).done(), 0, due, head + 8, 4);
        c.same(what + ": write()", x.write(), due.length);
        byte[] got = written(x, due.length);
        for (int i = 0; i < due.length; i++) {
            c.same(what + ": at(" + i + ")", got[i] & 255, due[i] & 255);
        }
        c.same(what + ": at the end", x.at(due.length), -1);
    }

    private static void wholeFile(Checks c) {
        byte[] first = Sign.row(2);
        byte[] odd = Sign.row(3);
        c.same("the test's own numbers", odd.length % 2 + first.length % 2, 0);
        byte[] oddToo = new Bytes().all(Sign.row(3)).one(77).done();
        byte[] other = new Bytes().one(1, 2, 3, 4, 5).done();
        byte[] glyf = new Bytes().all(first).all(oddToo).one(88).all(odd).done();
        int a = first.length;
        int b = a + oddToo.length + 1;
        byte[] loca = new Bytes().two(0, a / 2, b / 2, (b + odd.length) / 2).done();
        FontFile file = new FontFile().table("zzzz", other).table("maxp", FontFile.maxp(3))
                .table("loca", loca).table("head", FontFile.head(1000, 0)).table("glyf", glyf, 5).table("abcd", other, 9);
        TrueOutlines x = file.read();
        x.cut(1);
        compare(c, "the second sign", x, "abcd", other, "glyf", Arrays.copyOfRange(glyf, a, b),
                "head", FontFile.head(1000, 0), "loca", new Bytes().two(0, 0, (b - a) / 2, (b - a) / 2).done(),
                "maxp", FontFile.maxp(3), "zzzz", other);
        x.cut(2);
        x.cut(0);
        compare(c, "all signs", x, "abcd", other, "glyf", glyf,
                "head", FontFile.head(1000, 0), "loca", loca, "maxp", FontFile.maxp(3), "zzzz", other);
    }

    private static void longPlaces(Checks c) {
        byte[] odd = new Bytes().all(Sign.row(2)).one(99).done();
        byte[] even = Sign.row(2);
        TrueOutlines x = FontFile.of(true, odd, even, odd).read();
        x.cut(2);
        x.cut(0);
        byte[] glyf = new Bytes().all(odd).one(0).all(odd).one(0).done();
        compare(c, "odd data", x, "glyf", glyf, "head", FontFile.head(1000, 1),
                "loca", new Bytes().four(0, odd.length + 1, odd.length + 1, 2 * odd.length + 2).done(),
                "maxp", FontFile.maxp(3));
    }

    private static void nothingIsUsed(Checks c) {
        TrueOutlines x = FontFile.of(Sign.row(2), Sign.row(3)).read();
        compare(c, "nothing is used", x, "glyf", new byte[0], "head", FontFile.head(1000, 0),
                "loca", new byte[6], "maxp", FontFile.maxp(2));
    }

    /** SIGNS 0 .. 6: good; the wrong way round; good; beyond glyf; the wrong way round; empty beyond glyf; past. */
    private static void badPlaces(Checks c) {
        byte[] glyf = new Bytes().one(1, 2, 3, 4, 5, 6).done();
        byte[] loca = new Bytes().four(2, 4, 3, 6, 7, 0x80000000L, 0x80000000L).two(0).done();
        TrueOutlines x = new FontFile().table("glyf", glyf).table("head", FontFile.head(1, 1))
                .table("loca", loca).table("maxp", FontFile.maxp(8)).read();
        for (int i = 0; i < 8; i++) {
            c.same("cut(" + i + ")", x.cut(i), i + 1);
        }
        byte[] due = new Bytes().one(3, 4, 4, 5, 6, 0).done();
        compare(c, "bad places", x, "glyf", due, "head", FontFile.head(1, 1),
                "loca", new Bytes().four(0, 2, 2, 6, 6, 6, 6, 6, 6).done(), "maxp", FontFile.maxp(8));
    }

    private static void tablesOfOneTag(Checks c) {
        byte[] sign = Sign.row(2);
        byte[] loca = new Bytes().two(0, sign.length / 2).done();
        byte[] odd = new Bytes().one(1, 2, 3, 4, 5, 6, 7, 8, 9, 10, 11, 12, 13).done();
        FontFile file = new FontFile().table("maxp", FontFile.maxp(1)).table("maxp", FontFile.maxp(9))
                .table("loca", loca).table("loca", odd).table("glyf", sign).table("glyf", odd)
                .table("head", FontFile.head(1, 0)).table("head", odd).table("maxp", odd);
        compare(c, "several of one tag", file.read(), "glyf", new byte[0], "glyf", odd,
                "head", FontFile.head(1, 0), "head", odd, "loca", new byte[4], "loca", odd,
                "maxp", FontFile.maxp(1), "maxp", FontFile.maxp(9), "maxp", odd);
    }

    private static void tagsAsBytes(Checks c) {
        byte[] one = new Bytes().one(1).done();
        FontFile file = FontFile.of(Sign.EMPTY).table("\u00ffaaa", one).table("    ", one)
                .table("\u0080aaa", one).table("AAAA", one).table("\u007faaa", one).table("headd".substring(1), one);
        compare(c, "tags as bytes", file.read(), "    ", one, "AAAA", one, "eadd", one, "glyf", new byte[0],
                "head", FontFile.head(1000, 0), "loca", new byte[4], "maxp", FontFile.maxp(1),
                "\u007faaa", one, "\u0080aaa", one, "\u00ffaaa", one);
    }

    private static void noSigns(Checks c) {
        FontFile file = new FontFile().table("glyf", new byte[9]).table("head", FontFile.head(1, 1))
                .table("loca", new byte[0]).table("maxp", new byte[3]);
        compare(c, "maxp of 3 bytes", file.read(), "glyf", new byte[0], "head", FontFile.head(1, 1),
                "loca", new byte[4], "maxp", new byte[3]);
    }

    /** Six TABLES: 108 bytes of rows, and bodies of 56 + 8 + 4 + glyf + what else there is. */
    private static void sizeAtMost(Checks c) {
        byte[] file = new Bytes().four(65536).two(7).two(1, 2, 3)
                .text("head").four(0, 124, 52).text("maxp").four(0, 176, 6).text("loca").four(0, 0, 0)
                .text("glyf").four(0, 0, 0).text("aaaa").four(0, 0, 1100).text("bbbb").four(0, 0, 1100)
                .text("cccc").four(0, 0, 8).all(Arrays.copyOf(FontFile.head(1, 0), 52)).all(FontFile.maxp(0)).done();
        byte[] full = Arrays.copyOf(file, 1200);
        TrueOutlines x = new TrueOutlines();
        FontFile.fill(x, full);
        c.same("read()", x.read(), 7);
        c.same("124 + 52 + 8 + 4 + 0 + 1100 + 1100 + 8", x.write(), 2396);
        full[123] = 12;
        TrueOutlines y = new TrueOutlines();
        FontFile.fill(y, full);
        c.same("read()", y.read(), 7);
        c.same("2400", y.write(), 2400);
        c.same("at(2399)", y.at(2399), 0);
        c.same("at(2400)", y.at(2400), -1);
        full[123] = 13;
        TrueOutlines z = new TrueOutlines();
        FontFile.fill(z, full);
        c.same("read()", z.read(), 7);
        c.same("2401, and zeros", z.write(), -1);
    }

    /** The other TABLES leave 400 bytes, or 200, so that the length of loca decides. */
    private static void sizeOfLoca(Checks c) {
        for (int form = 0; form < 2; form++) {
            int loca = form == 1 ? 400 : 200;
            int other = (2400 - 12 - 6 * 16 - 52 - 8 - loca) / 2 / 4 * 4;
            for (int signs = 98; signs < 102; signs++) {
                byte[] file = new Bytes().four(65536).two(6).two(1, 2, 3)
                        .text("head").four(0, 108, 52).text("maxp").four(0, 160, 6).text("loca").four(0, 0, 0)
                        .text("glyf").four(0, 0, 0).text("aaaa").four(0, 0, other).text("bbbb").four(0, 0, other)
                        .all(Arrays.copyOf(FontFile.head(1, form), 52)).all(FontFile.maxp(signs)).done();
                TrueOutlines x = new TrueOutlines();
                FontFile.fill(x, Arrays.copyOf(file, 1200));
                c.same("read()", x.read(), 6);
                int size = (form == 1 ? 4 : 2) * (signs + 1);
                int due = 12 + 6 * 16 + 52 + 8 + 2 * other + (size + 3) / 4 * 4;
                c.same(signs + " signs of form " + form, x.write(), due > 2400 ? -1 : due);
            }
        }
    }

    private static void farPlaces(Checks c) {
        byte[] sign = new byte[700];
        sign[699] = 9;
        byte[] glyf = new Bytes().all(sign).all(Sign.row(2)).done();
        TrueOutlines x = FontFile.of(false, sign, Sign.row(2)).read();
        x.cut(0);
        x.cut(1);
        compare(c, "places beyond 255, in two bytes", x, "glyf", glyf, "head", FontFile.head(1000, 0),
                "loca", new Bytes().two(0, 350, 359).done(), "maxp", FontFile.maxp(2));
        TrueOutlines y = FontFile.of(true, sign, Sign.row(2)).read();
        y.cut(0);
        y.cut(1);
        compare(c, "places beyond 255, in four bytes", y, "glyf", glyf, "head", FontFile.head(1000, 1),
                "loca", new Bytes().four(0, 700, 718).done(), "maxp", FontFile.maxp(2));
    }

    private static void twoHundredSigns(Checks c) {
        FontFile file = new FontFile().table("glyf", new byte[0]).table("head", FontFile.head(1, 0))
                .table("loca", new byte[0]);
        TrueOutlines x = new FontFile().table("glyf", new byte[0]).table("head", FontFile.head(1, 0))
                .table("loca", new byte[0]).table("maxp", FontFile.maxp(200)).read();
        compare(c, "200 signs", x, "glyf", new byte[0], "head", FontFile.head(1, 0),
                "loca", new byte[402], "maxp", FontFile.maxp(200));
        c.same("201 signs", file.table("maxp", FontFile.maxp(201)).read().write(), -1);
    }

    /** The first 12 bytes stay as they were, though 24 TABLES of 26 are written. */
    private static void moreTablesThanAreRead(Checks c) {
        FontFile file = new FontFile();
        for (int i = 0; i < 20; i++) {
            file.table("aaaa", new byte[0]);
        }
        file.table("head", FontFile.head(1, 0)).table("maxp", FontFile.maxp(0)).table("loca", new byte[0])
                .table("glyf", new byte[0]).table("bbbb", new byte[8]).table("cccc", new byte[8]);
        TrueOutlines x = file.read();
        c.same("count(0)", x.count(0), 24);
        c.same("write()", x.write(), 12 + 16 * 24 + 56 + 8 + 4);
        int[] first = {0, 1, 0, 0, 0, 26, 0, 1, 0, 2, 0, 3};
        for (int i = 0; i < 12; i++) {
            c.same("at(" + i + ")", x.at(i), first[i]);
        }
        FontFile late = new FontFile();
        for (int i = 0; i < 21; i++) {
            late.table("aaaa", new byte[0]);
        }
        late.table("head", FontFile.head(1, 0)).table("maxp", FontFile.maxp(0)).table("loca", new byte[0])
                .table("glyf", new byte[0]);
        c.same("a glyf that is not read is not there", late.read().write(), -1);
    }

    /** SIGNS 0, 2, 4 .. share the same DATA of three bytes; the other TABLES leave 80 bytes for glyf. */
    private static void zerosBehindOddData(Checks c) {
        Bytes loca = new Bytes();
        for (int i = 0; i < 21; i++) {
            loca.four(0, 3);
        }
        int locaSize = 4 * 42;
        int other = (2400 - 12 - 6 * 16 - 52 - 8 - locaSize - 80) / 2;
        byte[] file = new Bytes().four(65536).two(6).two(1, 2, 3)
                .text("head").four(0, 108, 52).text("maxp").four(0, 160, 6).text("loca").four(0, 166, locaSize)
                .text("glyf").four(0, 0, 3).text("aaaa").four(0, 0, other).text("bbbb").four(0, 0, other)
                .all(Arrays.copyOf(FontFile.head(1, 1), 52)).all(FontFile.maxp(41)).all(loca.done()).done();
        TrueOutlines x = new TrueOutlines();
        FontFile.fill(x, Arrays.copyOf(file, 1200));
        c.same("read()", x.read(), 6);
        for (int i = 0; i < 20; i++) {
            c.same("cut(" + 2 * i + ")", x.cut(2 * i), i + 1);
            c.same("write() of " + (i + 1), x.write(), 2400 - 80 + 4 * (i + 1));
        }
        c.same("cut(40)", x.cut(40), 21);
        c.same("write() of 21", x.write(), -1);
        c.same("the file of 20 stays", x.at(2399), 0);
    }

    /** A SIGN that is BAD by its DATA alone is written: its place is as it has to be. */
    private static void usedSignsThatAreBadOtherwise(Checks c) {
        byte[] bad = new Bytes().one(0, 1, 2, 3).done();
        byte[] cut = Arrays.copyOf(Sign.composite(Sign.moved(0, 0, 0), Sign.moved(1, 0, 0)), 18);
        TrueOutlines x = FontFile.of(bad, cut, Sign.EMPTY, Sign.row(2)).read();
        c.same("run(0)", x.run(0), 0);
        c.told("run(0)", x, 1, 0);
        c.same("cut(1)", x.cut(1), 2);
        c.same("cut(2)", x.cut(2), 3);
        byte[] glyf = new Bytes().all(bad).all(cut).done();
        compare(c, "bad by their data", x, "glyf", glyf, "head", FontFile.head(1000, 0),
                "loca", new Bytes().two(0, 2, 11, 11, 11).done(), "maxp", FontFile.maxp(4));
    }

    private static void writingTwice(Checks c) {
        TrueOutlines x = FontFile.of(true, Sign.row(2), Sign.row(3)).read();
        x.cut(0);
        byte[] first = written(x, x.write());
        byte[] second = written(x, x.write());
        c.same("the same again", Arrays.equals(first, second) ? 1 : 0, 1);
        x.cut(7);
        x.run(1);
        x.add(-1, 8);
        byte[] third = written(x, x.write());
        c.same("the same behind calls that use no sign", Arrays.equals(first, third) ? 1 : 0, 1);
        x.cut(1);
        byte[] fourth = written(x, x.write());
        c.same("more behind one that does", fourth.length - first.length, 20);
        x.read();
        c.same("nothing is used behind read()", x.write(), first.length - 20);
    }

    /** THE SUMs of TABLES and of the file go beyond 2^32, and the file's is above 2981146554, or below. */
    private static void sumsThatWrap(Checks c) {
        byte[] high = new Bytes().four(0xFFFFFFFFL, 0xFFFFFFFFL, 0xFFFFFFFFL, 0x80000000L).one(255, 255).done();
        for (int i = 0; i < 16; i++) {
            byte[] last = new Bytes().four(0x10000000L * i).done();
            TrueOutlines x = FontFile.of(Sign.EMPTY).table("wwww", high).table("zzzz", last).read();
            compare(c, "a sum that wraps, " + i, x, "glyf", new byte[0], "head", FontFile.head(1000, 0),
                    "loca", new byte[4], "maxp", FontFile.maxp(1), "wwww", high, "zzzz", last);
        }
    }

    private static void whatMustBeThere(Checks c) {
        String[] tags = {"head", "maxp", "loca", "glyf"};
        byte[][] bodies = {FontFile.head(1, 0), FontFile.maxp(0), new byte[0], new byte[0]};
        for (int left = -1; left < 4; left++) {
            FontFile file = new FontFile();
            for (int i = 0; i < 4; i++) {
                if (i != left) {
                    file.table(tags[i], bodies[i]);
                }
            }
            int due = left < 0 ? 76 + 56 + 8 + 4 : -1;
            c.same("without " + (left < 0 ? "none" : tags[left]), file.read().write(), due);
        }
        for (int size = 51; size <= 52; size++) {
            FontFile file = new FontFile().table("head", Arrays.copyOf(bodies[0], size));
            for (int i = 1; i < 4; i++) {
                file.table(tags[i], bodies[i]);
            }
            c.same("a head of " + size + " bytes", file.read().write(), size == 52 ? 76 + 52 + 8 + 4 : -1);
        }
        TrueOutlines x = FontFile.of(Sign.row(2)).read();
        c.same("write()", x.write() > 0 ? 1 : 0, 1);
    }

    /** SIGNS 0, 2, 4 .. have the same DATA, so that all of them are more than 2400 bytes. */
    private static void whatWasWrittenStays(Checks c) {
        Bytes loca = new Bytes();
        for (int i = 0; i < 5; i++) {
            loca.four(0, 800);
        }
        TrueOutlines x = new FontFile().table("glyf", new byte[800]).table("head", FontFile.head(1, 1))
                .table("loca", loca.done()).table("maxp", FontFile.maxp(9)).read();
        x.cut(0);
        x.cut(2);
        int size = x.write();
        c.same("two signs", size, 76 + 1600 + 56 + 40 + 8);
        x.cut(4);
        c.same("three signs", x.write(), -1);
        c.same("what was written stays", x.at(size - 4), 0);
        c.same("and it alone", x.at(size), -1);
        c.same("its first byte", x.at(1), 1);
        x.read();
        c.same("behind read()", x.at(1), 1);
        c.same("nothing is used", x.write(), size - 1600);
        c.same("what is written anew is shorter", x.at(size - 1600), -1);
    }

    private static void writtenFileIsRead(Checks c) {
        byte[] composite = Sign.composite(Sign.moved(1, 5, 6), Sign.joined(2, 0, 1));
        TrueOutlines x = FontFile.of(Sign.row(9), Sign.row(4), Sign.row(3), composite).read();
        x.cut(3);
        byte[] bytes = written(x, x.write());
        TrueOutlines y = new TrueOutlines();
        FontFile.fill(y, bytes);
        c.same("read()", y.read(), 4);
        c.told("its sums", y);
        c.same("the whole file's sum", FontFile.sumOf(bytes, false), 2981146554L);
        c.same("run(0)", y.run(0), 0);
        c.told("run(0)", y);
        c.same("run(3)", y.run(3), x.run(3));
        for (int i = 0; i < 7; i++) {
            for (int what = 0; what < 8; what++) {
                c.same("piece(" + i + ", " + what + ")", y.piece(i, what), x.piece(i, what));
            }
        }
    }

    private static void at(Checks c) {
        TrueOutlines x = FontFile.of(Sign.row(2)).read();
        c.same("at(0) before write()", x.at(0), -1);
        int size = x.write();
        int[] none = {-1, size, size + 1, 2399, 2400, Integer.MIN_VALUE, Integer.MAX_VALUE};
        for (int i : none) {
            c.same("at(" + i + ")", x.at(i), -1);
        }
        c.same("at(5)", x.at(5), 4);
        c.same("at(12)", x.at(12), 'g');
    }
}
