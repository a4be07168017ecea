/** Promise 2: add. */
public final class AddTest {
    public static void main(String[] args) {
        Checks c = new Checks("AddTest");
        lowestBytesComeFirst(c);
        wrongNumbersChangeNothing(c);
        fileIsFullAt1600(c);
        c.end();
    }

    private static void lowestBytesComeFirst(Checks c) {
        TrueOutlines x = new TrueOutlines();
        c.same("add of 4", x.add(0x0000_0000_0000_0100L, 4), 4);
        c.same("add of 2", x.add(0x7777_7777_7777_0100L, 2), 6);
        c.same("add of 6", x.add(0, 6), 12);
        c.same("add of 8", x.add(0xF1F2_F3F4_6463_6261L, 8), 20);
        c.same("add of 8", x.add(0x0D00_0000_1C00_0000L, 8), 28);
        c.same("add of 1", x.add(-256L, 1), 29);
        c.same("add of 3", x.add(0xFF_80_7FL, 3), 32);
        c.same("add of 8", x.add(0x8877_6655_4433_2211L, 8), 40);
        c.same("add of 1", x.add(-1L, 1), 41);
        c.same("read()", x.read(), 1);
        int[] due = {0, 0x7F, 0x80, 0xFF, 0x11, 0x22, 0x33, 0x44, 0x55, 0x66, 0x77, 0x88, 0xFF};
        for (int i = 0; i < due.length; i++) {
            c.same("octet(0, " + i + ")", x.octet(0, i), due[i]);
        }
    }

    private static void wrongNumbersChangeNothing(Checks c) {
        TrueOutlines x = new TrueOutlines();
        int[] wrong = {0, -1, 9, 10, Integer.MIN_VALUE, Integer.MAX_VALUE};
        for (int n : wrong) {
            c.same("add(5, " + n + ")", x.add(5, n), -1);
        }
        c.same("add(5, 1) behind wrong ones", x.add(5, 1), 1);
        c.same("add(5, 8)", x.add(5, 8), 9);
    }

    private static void fileIsFullAt1600(Checks c) {
        TrueOutlines x = new TrueOutlines();
        for (int i = 1; i <= 199; i++) {
            c.same("add number " + i, x.add(-1, 8), 8 * i);
        }
        c.same("add up to 1597", x.add(-1, 5), 1597);
        c.same("add beyond", x.add(-1, 4), -1);
        c.same("add beyond with the greatest n", x.add(-1, Integer.MAX_VALUE), -1);
        c.same("add up to 1600", x.add(-1, 3), 1600);
        c.same("add to a full file", x.add(-1, 1), -1);
        c.same("read()", x.read(), -1);
    }
}
