/** Makes the DATA of a SIGN. */
final class Sign {
    static final int ON = 1;
    static final int OFF = 0;
    static final byte[] EMPTY = new byte[0];

    private Sign() {
    }

    /** One contour for each row of x, y, ON or OFF; each coordinate is told in two bytes. */
    static byte[] simple(int[]... contours) {
        Bytes ends = new Bytes();
        Bytes flags = new Bytes();
        Bytes xs = new Bytes();
        Bytes ys = new Bytes();
        int points = 0;
        int x = 0;
        int y = 0;
        for (int[] contour : contours) {
            for (int i = 0; i < contour.length; i += 3) {
                flags.one(contour[i + 2]);
                xs.two(contour[i] - x);
                ys.two(contour[i + 1] - y);
                x = contour[i];
                y = contour[i + 1];
                points++;
            }
            ends.two(points - 1);
        }
        return header(contours.length).all(ends.done()).two(0)
                .all(flags.done()).all(xs.done()).all(ys.done()).done();
    }

    /** A contour of as many POINTS, all ON, at x = 0, 1, .. and y = 0. */
    static byte[] row(int points) {
        Bytes data = header(1).two(points - 1).two(0);
        for (int i = 0; i < points; i++) {
            data.one(1 + 2 + 16 + 32);
        }
        data.one(0);
        for (int i = 1; i < points; i++) {
            data.one(1);
        }
        return data.done();
    }

    /** A contour of as many POINTS, each 32767 beyond the one before, in x and in y. */
    static byte[] far(int points, int on) {
        Bytes data = header(1).two(points - 1).two(0).one(on + 8, points - 1);
        for (int i = 0; i < 2 * points; i++) {
            data.two(32767);
        }
        return data.done();
    }

    /** A PART that takes a POINT with x = y to -4 x, -4 x. */
    static byte[] timesMinusFour(int sign) {
        return new Bytes().two(2 + 128, sign).one(0, 0).two(-32768, -32768, -32768, -32768).done();
    }

    /** The first ten bytes, of which only the number of contours counts. */
    static Bytes header(int contours) {
        return new Bytes().two(contours).two(9, 9, 9, 9);
    }

    /** PARTS, each of which was made by part(..); those before the last one have 32 in their flags. */
    static byte[] composite(byte[]... parts) {
        Bytes data = header(-1);
        for (int i = 0; i < parts.length; i++) {
            byte[] part = parts[i].clone();
            if (i < parts.length - 1) {
                part[1] |= 32;
            }
            data.all(part);
        }
        return data.done();
    }

    /** A PART that is moved by two numbers of one byte. */
    static byte[] moved(int sign, int x, int y) {
        return new Bytes().two(2, sign).one(x, y).done();
    }

    /** A PART whose POINT comes to one of the SIGN. */
    static byte[] joined(int sign, int first, int second) {
        return new Bytes().two(0, sign).one(first, second).done();
    }
}
