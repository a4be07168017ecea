/** Promise 2: add. */
public final class AddTest {
    public static void main(String[] args) {
        Checks c = new Checks("AddTest");
        lowestBytesComeFirst(c);
        everyNumberOfBytes(c);
        wrongNumbersChangeNothing(c);
        fileIsFullAt1600(c);
        fullByEights(c);
        refusedBytesAreNotThere(c);
        c.end();
    }

    private static void lowestBytesComeFirst(Checks c) {
        TrueOutlines x = new TrueOutlines();
        c.same("add of 4", x.add(0x0000_0000_0000_0100L, 4), 4);
        c.same("add of 2", x.add(0x7777_7777_7777_0100L, 2), 6);
        c.same("add of 6", x.add(0, 6), 12);
        c.same("add of 8", x.add(0xF1F2_F3F4_6463_6261L, 8), 20);
        c.same("add of 8", x.add(0x0D00_0000_1C00_0000L, 8), 28);
        c.same("add of 1", x.add(-256L, 1), 29);
        c.same("add of 3", x.add(0xFF_80_7FL, 3), 32);
        c.same("add of 8", x.add(0x8877_6655_4433_2211L, 8), 40);
        c.same("add of 1", x.add(-1L, 1), 41);
        c.same("read()", x.read(), 1);
        int[] due = {0, 0x7F, 0x80, 0xFF, 0x11, 0x22, 0x33, 0x44, 0x55, 0x66, 0x77, 0x88, 0xFF};
        for (int i = 0; i < due.length; i++) {
            c.same("octet(0, " + i + ")", x.octet(0, i), due[i]);
        }
    }

    /** A TABLE over the whole file, so that octet() tells all of its bytes. */
    private static TrueOutlines overItself(int size) {
        TrueOutlines x = new TrueOutlines();
        FontFile.fill(x, new Bytes().four(65536).two(1, 0, 0, 0).text("abcd").four(0, 0, size).done());
        return x;
    }

    private static void everyNumberOfBytes(Checks c) {
        long w = 0xF8E7_D6C5_B4A3_9281L;
        for (int n = 1; n <= 8; n++) {
            TrueOutlines x = overItself(28 + n);
            c.same("add(w, " + n + ")", x.add(w, n), 28 + n);
            c.same("read()", x.read(), 1);
            for (int i = 0; i < n; i++) {
                c.same("byte " + i + " of " + n, x.octet(0, 28 + i), w >> 8 * i & 255);
            }
        }
    }

    private static void refusedBytesAreNotThere(Checks c) {
        TrueOutlines x = overItself(1600);
        c.same("add of none", x.add(-1, 0), -1);
        c.same("add of nine", x.add(-1, 9), -1);
        for (int i = 28; i < 1596; i += 8) {
            x.add(0x0102030405060708L, 8);
        }
        c.same("read() of 1596 bytes", x.read(), -1);
        c.same("four and one more", x.add(-1, 5), -1);
        c.same("read() is as before", x.read(), -1);
        c.same("four", x.add(0x21222324L, 4), 1600);
        c.same("no more", x.add(-1, 1), -1);
        c.same("read() of 1600 bytes", x.read(), 1);
        c.same("the first one behind what was refused", x.octet(0, 28), 8);
        c.same("the last of the eights", x.octet(0, 1595), 1);
        c.same("the first of the four", x.octet(0, 1596), 0x24);
        c.same("the last of the four", x.octet(0, 1599), 0x21);
    }

    private static void fullByEights(Checks c) {
        TrueOutlines x = new TrueOutlines();
        for (int i = 1; i < 200; i++) {
            x.add(0, 8);
        }
        c.same("the last eight", x.add(0, 8), 1600);
        TrueOutlines y = new TrueOutlines();
        y.add(0, 1);
        for (int i = 1; i < 200; i++) {
            y.add(0, 8);
        }
        c.same("eight behind 1593", y.add(0, 8), -1);
        c.same("seven behind 1593", y.add(0, 7), 1600);
    }

    private static void wrongNumbersChangeNothing(Checks c) {
        TrueOutlines x = new TrueOutlines();
        int[] wrong = {0, -1, 9, 10, Integer.MIN_VALUE, Integer.MAX_VALUE};
        for (int n : wrong) {
            c.same("add(5, " + n + ")", x.add(5, n), -1);
        }
        c.same("add(5, 1) behind wrong ones", x.add(5, 1), 1);
        c.same("add(5, 8)", x.add(5, 8), 9);
    }

    private static void fileIsFullAt1600(Checks c) {
        TrueOutlines x = new TrueOutlines();
        for (int i = 1; i <= 199; i++) {
            c.same("add number " + i, x.add(-1, 8), 8 * i);
        }
        c.same("add up to 1597", x.add(-1, 5), 1597);
        c.same("add beyond", x.add(-1, 4), -1);
        c.same("add beyond with the greatest n", x.add(-1, Integer.MAX_VALUE), -1);
        c.same("add up to 1600", x.add(-1, 3), 1600);
        c.same("add to a full file", x.add(-1, 1), -1);
        c.same("read()", x.read(), -1);
    }
}
