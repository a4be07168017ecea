/** Promise 7: map. */
public final class MapTest {
    private static final int SIGNS = 150;

    public static void main(String[] args) {
        Checks c = new Checks("MapTest");
        form0(c);
        form4(c);
        form4Edges(c);
        form6(c);
        form12(c);
        mapsWithoutCodes(c);
        codesBelowNone(c);
        firstFormThatIsKnownCounts(c);
        asManyRowsAsAreTold(c);
        formsThatArePast(c);
        rowsThatArePast(c);
        mapsThatLieOverRows(c);
        c.end();
    }

    private static TrueOutlines withCmap(byte[] cmap) {
        return new FontFile().table("maxp", FontFile.maxp(SIGNS)).table("cmap", cmap).read();
    }

    /** One row, and the MAP behind it. */
    private static TrueOutlines withMap(byte[] map) {
        return withCmap(new Bytes().two(0, 1, 3, 1).four(12).all(map).done());
    }

    private static void all(Checks c, String what, TrueOutlines x, int[][] due) {
        for (int[] pair : due) {
            c.same(what + ": map(" + pair[0] + ")", x.map(pair[0]), pair[1]);
        }
    }

    private static void form0(Checks c) {
        Bytes map = new Bytes().two(0, 262, 0);
        for (int i = 0; i < 256; i++) {
            map.one((256 - i) % 256);
        }
        all(c, "form 0", withMap(map.two(0x0505).done()), new int[][] {
            {0, 0}, {106, 0}, {107, 149}, {108, 148}, {254, 2}, {255, 1}, {256, 0}, {257, 0}, {-1, 0},
            {Integer.MIN_VALUE, 0}, {Integer.MAX_VALUE, 0}});
        all(c, "form 0, short", withMap(new Bytes().two(0, 0, 0).one(7, 8).done()),
                new int[][] {{0, 7}, {1, 8}, {2, 0}, {255, 0}});
    }

    /** Segments 10 .. 12, 20 .. 29, 40 .. 41 and 65535: by d; by a row; by a row, with d. */
    private static byte[] segments() {
        return new Bytes().two(4, 0, 0, 8, 0, 0, 0)
                .two(12, 29, 41, 65535).two(0)
                .two(10, 20, 40, 65535)
                .two(65536 - 9, 0, 65535, 1)
                .two(0, 6, 6, 0)
                .two(100, 0, 149)
                .done();
    }

    private static void form4(Checks c) {
        all(c, "form 4", withMap(segments()), new int[][] {
            {9, 0}, {10, 1}, {11, 2}, {12, 3}, {13, 0}, {19, 0}, {20, 100}, {21, 0}, {22, 149}, {23, 0},
            {29, 0}, {39, 0}, {40, 0}, {41, 148}, {42, 0}, {65534, 0}, {65535, 0}, {65536, 0}, {65546, 0},
            {-1, 0}, {Integer.MIN_VALUE, 0}, {Integer.MAX_VALUE, 0}});
    }

    private static void form4Edges(Checks c) {
        Bytes wraps = new Bytes().two(4, 0, 0, 2, 0, 0, 0).two(65535).two(0).two(0).two(3).two(0);
        all(c, "form 4, the code and d wrap", withMap(wraps.done()),
                new int[][] {{0, 3}, {146, 149}, {147, 0}, {65533, 0}, {65534, 1}, {65535, 2}, {65536, 0}});
        Bytes wrapsInRow = new Bytes().two(4, 0, 0, 2, 0, 0, 0).two(9).two(0).two(8).two(65535).two(2).two(7, 65535);
        all(c, "form 4, the row and d wrap", withMap(wrapsInRow.done()), new int[][] {{8, 6}, {9, 0}});
        Bytes twice = new Bytes().two(4, 0, 0, 4, 0, 0, 0).two(9, 9).two(0).two(9, 5).two(1, 2).two(0, 0);
        all(c, "form 4, the least k alone", withMap(twice.done()), new int[][] {{8, 0}, {9, 10}});
        Bytes notSorted = new Bytes().two(4, 0, 0, 4, 0, 0, 0).two(9, 5).two(0).two(3, 3).two(1, 2).two(0, 0);
        all(c, "form 4, not sorted", withMap(notSorted.done()), new int[][] {{5, 6}, {9, 10}});
        Bytes zero = new Bytes().two(4, 0, 0, 2, 0, 0, 0).two(9).two(0).two(7).two(3).two(2).two(0, 1, 2);
        all(c, "form 4, 0 in the row stays 0", withMap(zero.done()), new int[][] {{7, 0}, {8, 4}, {9, 5}});
        Bytes beyond = new Bytes().two(4, 0, 0, 2, 0, 0, 0).two(5).two(65535).two(5).two(1).two(0).two(0);
        all(c, "form 4, one segment alone", withMap(beyond.done()), new int[][] {{5, 6}, {9, 0}});
        Bytes far = new Bytes().two(4, 0, 0, 2, 0, 0, 0).two(9).two(0).two(7).two(1).two(4).two(5, 6, 8);
        all(c, "form 4, a row that ends before the codes do", withMap(far.done()),
                new int[][] {{6, 0}, {7, 7}, {8, 9}, {9, 0}});
        Bytes farther = new Bytes().two(4, 0, 0, 2, 0, 0, 0).two(9).two(0).two(7).two(1).two(65535).two(5, 6, 8);
        all(c, "form 4, a row far beyond", withMap(farther.done()), new int[][] {{7, 0}, {8, 0}, {9, 0}});
        Bytes lastSign = new Bytes().two(4, 0, 0, 2, 0, 0, 0).two(9).two(0).two(7).two(0).two(2).two(148, 149, 150);
        all(c, "form 4, the last sign of a row", withMap(lastSign.done()), new int[][] {{7, 148}, {8, 149}, {9, 0}});
        Bytes none = new Bytes().two(4, 0, 0, 0, 0, 0, 0).two(9, 9, 9, 9);
        all(c, "form 4, no segments", withMap(none.done()), new int[][] {{0, 0}, {9, 0}});
        byte[] whole = new Bytes().two(4, 0, 0, 2, 0, 0, 0).two(9).two(0).two(8).two(0).two(2).two(7).done();
        for (int size = 0; size <= whole.length; size++) {
            byte[] part = java.util.Arrays.copyOf(whole, size);
            c.same("form 4 of " + size + " bytes", withMap(part).map(8), size == whole.length ? 7 : 0);
        }
        byte[] byD = new Bytes().two(4, 0, 0, 2, 0, 0, 0).two(9).two(0).two(8).two(1).two(0).done();
        for (int size = byD.length - 4; size <= byD.length; size++) {
            byte[] part = java.util.Arrays.copyOf(byD, size);
            c.same("form 4 by d of " + size + " bytes", withMap(part).map(8), size == byD.length ? 9 : 0);
        }
    }

    private static void form6(Checks c) {
        byte[] map = new Bytes().two(6, 0, 0, 1000, 4).two(5, 149, 150, 6, 7).done();
        all(c, "form 6", withMap(map), new int[][] {
            {999, 0}, {1000, 5}, {1001, 149}, {1002, 0}, {1003, 6}, {1004, 0}, {0, 0}, {-1, 0},
            {Integer.MIN_VALUE, 0}, {Integer.MAX_VALUE, 0}, {66536, 0}});
        byte[] cut = new Bytes().two(6, 0, 0, 1000, 4).two(5, 6).one(0).done();
        all(c, "form 6, short", withMap(cut), new int[][] {{1000, 5}, {1001, 6}, {1002, 0}, {1003, 0}});
        c.same("form 6, no how many", withMap(new Bytes().two(6, 0, 0, 0).one(0).done()).map(0), 0);
        byte[] high = new Bytes().two(6, 0, 0, 65535, 2).two(3, 4).done();
        all(c, "form 6, beyond 65535", withMap(high), new int[][] {{65535, 3}, {65536, 4}, {65537, 0}});
    }

    private static void form12(Checks c) {
        byte[] map = new Bytes().two(12, 0).four(0, 0, 4)
                .four(100, 109, 1)
                .four(105, 120, 50)
                .four(70000, 70001, 148)
                .four(0x7FFFFFFFL, 0xFFFFFFFFL, 3)
                .four(0, 0, 9).done();
        all(c, "form 12", withMap(map), new int[][] {
            {99, 0}, {100, 1}, {109, 10}, {110, 55}, {120, 65}, {121, 0}, {70000, 148}, {70001, 149},
            {70002, 0}, {0, 0}, {Integer.MAX_VALUE, 3}, {-1, 0}});
        byte[] beyond = new Bytes().two(12, 0).four(0, 0, 0xFFFFFFFFL)
                .four(5, 8, 149).four(6, 8, 1).four(10, 20, 0xFFFFFFFFL).four(30, 30, 2).four(40, 50).done();
        all(c, "form 12, no signs, and past", withMap(beyond), new int[][] {
            {5, 149}, {6, 0}, {10, 0}, {11, 0}, {12, 0}, {30, 2}, {40, 0}, {41, 0}, {43, 0}});
        byte[] group = new Bytes().two(12, 0).four(0, 0, 1).four(40, 50, 1).done();
        for (int size = 2; size <= group.length; size++) {
            byte[] part = java.util.Arrays.copyOf(group, size);
            c.same("form 12 of " + size + " bytes", withMap(part).map(43), size == group.length ? 4 : 0);
        }
        c.same("form 12, no how many", withMap(new Bytes().two(12, 0).four(0, 0).two(0).done()).map(0), 0);
    }

    private static void firstFormThatIsKnownCounts(Checks c) {
        byte[] six = new Bytes().two(6, 0, 0, 1, 1, 7).done();
        byte[] other = new Bytes().two(6, 0, 0, 1, 1, 8).done();
        for (int form = 0; form < 15; form++) {
            if (form == 0 || form == 4 || form == 6 || form == 12) {
                continue;
            }
            byte[] unknown = new Bytes().two(form, 0, 0, 1, 1, 5).done();
            byte[] cmap = new Bytes().two(0, 3).two(0, 0).four(28).two(0, 0).four(40).two(0, 0).four(52)
                    .all(unknown).all(six).all(other).done();
            c.same("the first known one behind form " + form, withCmap(cmap).map(1), 7);
        }
        byte[] back = new Bytes().two(0, 2).two(0, 0).four(32).two(0, 0).four(20).all(six).all(other).done();
        c.same("by the rows' order, not by the places", withCmap(back).map(1), 8);
    }

    private static void asManyRowsAsAreTold(Checks c) {
        for (int told = 0; told < 4; told++) {
            Bytes cmap = new Bytes().two(0, told).two(0, 0).four(28).two(0, 0).four(28).two(0, 0).four(30);
            TrueOutlines x = withCmap(cmap.two(2).two(6, 0, 0, 1, 1, 7).done());
            c.same("the third row of " + told, x.map(1), told < 3 ? 0 : 7);
        }
        Bytes many = new Bytes().two(0, 256).two(0, 0).four(12).two(6, 0, 0, 1, 1, 7);
        c.same("256 rows, of which the first one counts", withCmap(many.done()).map(1), 7);
    }

    private static void mapsThatLieOverRows(Checks c) {
        byte[] cmap = new Bytes().two(0, 1).two(6, 0).four(4).two(5, 1, 9).done();
        all(c, "a map that begins with its own row", withCmap(cmap), new int[][] {{3, 0}, {4, 1}, {5, 9}, {6, 0}});
        byte[] zero = new Bytes().two(0, 1).two(0, 0).four(0).one(3, 4).done();
        all(c, "form 0 over the rows", withCmap(zero), new int[][] {{0, 0}, {6, 3}, {7, 4}, {8, 0}});
    }

    private static void mapsWithoutCodes(Checks c) {
        all(c, "form 6, how many is 0", withMap(new Bytes().two(6, 0, 0, 5, 0, 7).done()),
                new int[][] {{4, 0}, {5, 0}, {6, 0}});
        all(c, "form 12, how many is 0", withMap(new Bytes().two(12, 0).four(0, 0, 0, 5, 9, 7).done()),
                new int[][] {{4, 0}, {5, 0}, {9, 0}});
        all(c, "form 12, the last code is before the first", withMap(
                new Bytes().two(12, 0).four(0, 0, 2).four(9, 5, 7).four(9, 9, 3).done()),
                new int[][] {{4, 0}, {5, 0}, {7, 0}, {9, 3}});
        all(c, "form 12, only as many as are told", withMap(
                new Bytes().two(12, 0).four(0, 0, 1).four(1, 2, 7).four(3, 4, 9).done()),
                new int[][] {{1, 7}, {2, 8}, {3, 0}});
        all(c, "form 0 without bytes", withMap(new Bytes().two(0, 0, 0).done()), new int[][] {{0, 0}, {255, 0}});
        all(c, "form 0, all bytes to the end", withMap(new Bytes().two(0, 0, 0).one(1).done()),
                new int[][] {{0, 1}, {1, 0}});
    }

    /** What stands before the place of code 0 would be found, were a code below 0 looked for. */
    private static void codesBelowNone(Checks c) {
        int[] below = {-1, -2, -3, -256, -65536, Integer.MIN_VALUE};
        Bytes zero = new Bytes().two(0, 0x0101, 0x0101).one(1, 1, 1);
        Bytes six = new Bytes().two(6, 1, 1, 0, 9, 1, 1, 1);
        Bytes twelve = new Bytes().two(12, 0).four(0, 0, 1).four(0, 0xFFFFFFFFL, 1);
        Bytes four = new Bytes().two(4, 0, 0, 2, 0, 0, 0).two(65535).two(0).two(0).two(3).two(0);
        for (int code : below) {
            c.same("form 0: map(" + code + ")", withMap(zero.done()).map(code), 0);
            c.same("form 4: map(" + code + ")", withMap(four.done()).map(code), 0);
            c.same("form 6: map(" + code + ")", withMap(six.done()).map(code), 0);
            c.same("form 12: map(" + code + ")", withMap(twelve.done()).map(code), 0);
        }
        c.same("form 0: map(0)", withMap(zero.done()).map(0), 1);
        c.same("form 4: map(0)", withMap(four.done()).map(0), 3);
        c.same("form 6: map(0)", withMap(six.done()).map(0), 1);
        c.same("form 12: map(0)", withMap(twelve.done()).map(0), 1);
    }

    /** As many rows as places; behind them a MAP of FORM 6 (code 1 is SIGN 7), and a TWO of no FORM. */
    private static TrueOutlines withPlaces(long... places) {
        Bytes cmap = new Bytes().two(0, places.length);
        for (long place : places) {
            cmap.two(0, 0).four(place);
        }
        return withCmap(cmap.two(6, 0, 0, 1, 1, 7).two(5).done());
    }

    private static void formsThatArePast(Checks c) {
        int six = 4 + 8 * 2;
        int end = six + 14;
        c.same("a form in the last two bytes is there", withPlaces(end - 2, six).map(1), 7);
        long[] past = {end - 1, end, end + 1, 1000, 0x7FFFFFFFL, 0x80000000L, 0xFFFFFFFEL, 0xFFFFFFFFL};
        for (long place : past) {
            c.same("a first form past, at " + place, withPlaces(place, six).map(1), 0);
            c.same("a form past behind the one that counts, at " + place, withPlaces(six, place).map(1), 7);
            c.same("a form past alone, at " + place, withPlaces(place).map(1), 0);
        }
        int sixOfThree = 4 + 8 * 3;
        c.same("no known form, past, then a known one",
                withPlaces(sixOfThree + 12, 1000, sixOfThree).map(1), 0);
        c.same("no known form twice, then a known one",
                withPlaces(sixOfThree + 12, sixOfThree + 12, sixOfThree).map(1), 7);
    }

    private static void rowsThatArePast(Checks c) {
        byte[] six = new Bytes().two(6, 0, 0, 1, 1, 7).done();
        c.same("no cmap", new FontFile().table("maxp", FontFile.maxp(9)).read().map(1), 0);
        c.same("an empty cmap", withCmap(new byte[0]).map(1), 0);
        c.same("a cmap of 3 bytes", withCmap(new byte[] {0, 0, 0}).map(1), 0);
        c.same("rows that are not there", withCmap(new Bytes().two(0, 65535, 0, 0).done()).map(1), 0);
        byte[] noSigns = new Bytes().two(0, 1).two(0, 0).four(12).all(six).done();
        c.same("no signs at all", new FontFile().table("cmap", noSigns).read().map(1), 0);
    }
}
