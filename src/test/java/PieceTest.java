/** Promise 9: piece. */
public final class PieceTest {
    private static final int ON = Sign.ON;
    private static final int OFF = Sign.OFF;
    private static final Class<IndexOutOfBoundsException> NONE = IndexOutOfBoundsException.class;

    public static void main(String[] args) {
        Checks c = new Checks("PieceTest");
        lines(c);
        curves(c);
        firstOnIsNotFirst(c);
        noneIsOn(c);
        middles(c);
        smallContours(c);
        severalContours(c);
        wrapping(c);
        wrongNumbers(c);
        withoutPieces(c);
        allOfAFullSign(c);
        c.end();
    }

    private static TrueOutlines run(Checks c, int pieces, int[]... contours) {
        TrueOutlines x = FontFile.of(true, Sign.simple(contours)).read();
        c.same("run(0)", x.run(0), pieces);
        return x;
    }

    private static void lines(Checks c) {
        TrueOutlines x = run(c, 3, new int[] {1, 2, ON, -5, 9, ON, 7, -11, ON});
        c.piece("a line", x, 0, 0, 0, 2, 4, 0, 0, -10, 18);
        c.piece("a line", x, 1, 0, 0, -10, 18, 0, 0, 14, -22);
        c.piece("the line back", x, 2, 0, 0, 14, -22, 0, 0, 2, 4);
    }

    private static void curves(Checks c) {
        TrueOutlines x = run(c, 3, new int[] {0, 0, ON, 1, 10, OFF, 20, 11, ON, 31, 3, OFF, 34, 6, OFF});
        c.piece("to a point that is on", x, 0, 0, 1, 0, 0, 2, 20, 40, 22);
        c.piece("to the middle", x, 1, 0, 1, 40, 22, 62, 6, 65, 9);
        c.piece("from the middle, back", x, 2, 0, 1, 65, 9, 68, 12, 0, 0);
        c.same("count(3)", x.count(3), 5);
    }

    private static void firstOnIsNotFirst(Checks c) {
        TrueOutlines x = run(c, 3, new int[] {1, 1, OFF, 2, 5, OFF, 7, 8, ON, 9, 4, ON});
        c.piece("from the first that is on", x, 0, 0, 0, 14, 16, 0, 0, 18, 8);
        c.piece("by the first", x, 1, 0, 1, 18, 8, 2, 2, 3, 6);
        c.piece("by the second", x, 2, 0, 1, 3, 6, 4, 10, 14, 16);
        TrueOutlines y = run(c, 2, new int[] {1, 1, OFF, 2, 5, OFF, 7, 8, ON});
        c.piece("the last one alone is on", y, 0, 0, 1, 14, 16, 2, 2, 3, 6);
        c.piece("the last one alone is on", y, 1, 0, 1, 3, 6, 4, 10, 14, 16);
    }

    private static void noneIsOn(Checks c) {
        TrueOutlines x = run(c, 3, new int[] {1, 1, OFF, 2, 5, OFF, 8, 8, OFF});
        c.piece("none is on", x, 0, 0, 1, 9, 9, 2, 2, 3, 6);
        c.piece("none is on", x, 1, 0, 1, 3, 6, 4, 10, 10, 13);
        c.piece("none is on", x, 2, 0, 1, 10, 13, 16, 16, 9, 9);
        TrueOutlines y = run(c, 2, new int[] {1, 1, OFF, 2, 5, OFF});
        c.piece("two that are not on", y, 0, 0, 1, 3, 6, 2, 2, 3, 6);
        c.piece("two that are not on", y, 1, 0, 1, 3, 6, 4, 10, 3, 6);
    }

    private static void smallContours(Checks c) {
        TrueOutlines x = run(c, 2, new int[] {1, 2, ON, 3, 4, ON});
        c.piece("there", x, 0, 0, 0, 2, 4, 0, 0, 6, 8);
        c.piece("and back", x, 1, 0, 0, 6, 8, 0, 0, 2, 4);
        TrueOutlines y = run(c, 1, new int[] {1, 2, ON, 3, 4, OFF});
        c.piece("to itself", y, 0, 0, 1, 2, 4, 6, 8, 2, 4);
        TrueOutlines z = run(c, 1, new int[] {1, 2, OFF, 3, 4, ON});
        c.piece("to itself", z, 0, 0, 1, 6, 8, 2, 4, 6, 8);
        run(c, 0, new int[] {1, 2, ON});
        run(c, 0, new int[] {1, 2, OFF});
        TrueOutlines same = run(c, 2, new int[] {5, 5, ON, 5, 5, ON});
        c.piece("a line without length", same, 1, 0, 0, 10, 10, 0, 0, 10, 10);
    }

    private static void severalContours(Checks c) {
        TrueOutlines x = run(c, 5, new int[] {0, 0, ON, 1, 0, ON}, new int[] {5, 5, ON},
                new int[] {7, 7, OFF, 9, 9, OFF}, new int[] {2, 2, OFF, 3, 3, ON});
        int[] contours = {0, 0, 2, 2, 3};
        for (int i = 0; i < contours.length; i++) {
            c.same("the contour of piece " + i, x.piece(i, 0), contours[i]);
        }
        c.piece("of the third contour", x, 2, 2, 1, 16, 16, 14, 14, 16, 16);
        c.piece("of the last contour", x, 4, 3, 1, 6, 6, 4, 4, 6, 6);
    }

    /** The middle of POINTS whose numbers are odd or below 0 is a whole number of halves. */
    private static void middles(Checks c) {
        TrueOutlines x = run(c, 3, new int[] {-1, -2, OFF, -4, 3, OFF, 0, 0, OFF});
        c.piece("from the middle of the last and the first", x, 0, 0, 1, -1, -2, -2, -4, -5, 1);
        c.piece("middle of odd and even", x, 1, 0, 1, -5, 1, -8, 6, -4, 3);
        c.piece("back to where it began", x, 2, 0, 1, -4, 3, 0, 0, -1, -2);
        TrueOutlines y = run(c, 4, new int[] {0, 0, ON, 1, 1, OFF, 3, 2, OFF, 4, 0, ON, 9, 9, ON});
        c.piece("on, off", y, 0, 0, 1, 0, 0, 2, 2, 4, 3);
        c.piece("off, on", y, 1, 0, 1, 4, 3, 6, 4, 8, 0);
        c.piece("on, on", y, 2, 0, 0, 8, 0, 0, 0, 18, 18);
        c.piece("on, and the first one", y, 3, 0, 0, 18, 18, 0, 0, 0, 0);
    }

    /** POINTS that are ints, while their halves of units are beyond these. */
    private static void wrapping(Checks c) {
        byte[][] signs = new byte[6][];
        signs[0] = Sign.far(60, OFF);
        for (int i = 1; i < 6; i++) {
            signs[i] = Sign.composite(Sign.timesMinusFour(i - 1));
        }
        TrueOutlines x = FontFile.of(true, signs).read();
        c.same("run(5)", x.run(5), 60);
        int last = -1024 * 60 * 32767;
        int before = -1024 * 59 * 32767;
        c.same("the test's own numbers", 2L * last == 2 * last ? 1 : 0, 0);
        c.same("by what the last one bends", x.piece(59, 4), 2 * last);
        c.same("where the last one begins", x.piece(59, 2), last + before);
        c.same("where the last one ends", x.piece(59, 7), last - 1024 * 32767);
    }

    private static void withoutPieces(Checks c) {
        int[] dot = {1, 1, ON};
        TrueOutlines x = FontFile.of(true, Sign.row(2), Sign.EMPTY, new byte[3], Sign.simple(dot)).read();
        c.fails("piece(0, 0) before a run()", NONE, () -> x.piece(0, 0));
        for (int sign = 1; sign <= 4; sign++) {
            x.run(0);
            c.same("piece(1, 6)", x.piece(1, 6), 0);
            c.same("run(" + sign + ")", x.run(sign), sign == 4 ? -1 : 0);
            c.fails("piece(0, 0) of an empty, a bad one, a dot, and none", NONE, () -> x.piece(0, 0));
        }
    }

    /** As many PIECES as there may be POINTS, and fewer behind more. */
    private static void allOfAFullSign(Checks c) {
        TrueOutlines x = FontFile.of(Sign.row(120), Sign.row(119)).read();
        c.same("run(0)", x.run(0), 120);
        c.piece("the last of 120", x, 119, 0, 0, 238, 0, 0, 0, 0, 0);
        c.fails("piece(120, 0)", NONE, () -> x.piece(120, 0));
        c.same("run(1)", x.run(1), 119);
        c.piece("the last of 119", x, 118, 0, 0, 236, 0, 0, 0, 0, 0);
        c.fails("piece(119, 0)", NONE, () -> x.piece(119, 0));
    }

    private static void wrongNumbers(Checks c) {
        TrueOutlines x = run(c, 2, new int[] {1, 2, ON, 3, 4, ON});
        c.same("piece(1, 7)", x.piece(1, 7), 4);
        int[][] wrong = {{-1, 0}, {2, 0}, {0, -1}, {0, 8}, {1, 8}, {1, -1}, {Integer.MIN_VALUE, 0},
            {Integer.MAX_VALUE, 0}, {0, Integer.MIN_VALUE}, {0, Integer.MAX_VALUE}};
        for (int[] pair : wrong) {
            c.fails("piece(" + pair[0] + ", " + pair[1] + ")", NONE, () -> x.piece(pair[0], pair[1]));
        }
    }
}
