import java.util.Arrays;

/** The lines of README.md's example, on a file with one triangle: what it says of them holds. */
public final class ExampleTest {
    public static void main(String[] args) {
        Checks c = new Checks("ExampleTest");
        byte[] file = triangle();

        TrueOutlines x = new TrueOutlines();
        for (int i = 0; i < file.length; i += 8) {
            int n = Math.min(8, file.length - i);
            long w = 0;
            for (int k = n - 1; k >= 0; k--) {
                w = w << 8 | file[i + k] & 255;
            }
            c.same("add", x.add(w, n), i + n);
        }
        c.same("read()", x.read(), 8);
        c.same("told(-1, 0)", x.told(-1, 0), 0);

        int sign = x.map('A');
        c.same("map('A')", sign, 1);
        c.same("run(sign)", x.run(sign), 3);
        c.same("piece(0, 6)", x.piece(0, 6), 400);
        c.piece("the first side", x, 0, 0, 0, 0, 0, 0, 0, 400, 0);
        c.piece("the second side", x, 1, 0, 0, 400, 0, 0, 0, 200, 600);
        c.piece("the third side", x, 2, 0, 0, 200, 600, 0, 0, 0, 0);
        c.same("width(sign)", x.width(sign), 220);
        c.same("kern(sign, 2)", x.kern(sign, 2), -15);
        c.same("scaled(220, 12)", x.scaled(x.width(sign), 12), 169);

        c.same("cut(sign)", x.cut(sign), 1);
        byte[] cut = new byte[Math.max(0, x.write())];
        for (int i = 0; i < cut.length; i++) {
            cut[i] = (byte) x.at(i);
        }
        TrueOutlines y = new TrueOutlines();
        FontFile.fill(y, cut);
        c.same("read() of what was written", y.read(), 8);
        c.told("read() of what was written", y);
        c.same("run(1) of what was written", y.run(1), 3);
        c.same("run(2), which was not used", y.run(2), 0);
        c.same("the first twelve bytes are the same",
                Arrays.equals(Arrays.copyOf(cut, 12), Arrays.copyOf(file, 12)) ? 1 : 0, 1);
        c.end();
    }

    private static byte[] triangle() {
        byte[] sign = Sign.simple(new int[] {0, 0, Sign.ON, 200, 0, Sign.ON, 100, 300, Sign.ON});
        return FontFile.of(Sign.EMPTY, sign, sign)
                .table("cmap", new Bytes().two(0, 1, 3, 1).four(12).two(6, 12, 0, 'A', 1, 1).done())
                .table("hhea", FontFile.hhea(2))
                .table("hmtx", new Bytes().two(500, 0, 220, 0).done())
                .table("kern", new Bytes().two(0, 1, 0, 20, 1, 1, 6, 0, 0).two(1, 2, -15).done())
                .bytes();
    }
}
