/** Promise 13: scaled. */
public final class ScaledTest {
    public static void main(String[] args) {
        Checks c = new Checks("ScaledTest");
        nearest(c);
        edges(c);
        dotsAtTheirEdges(c);
        halvesOfAll(c);
        whatIsNotThere(c);
        c.end();
    }

    private static TrueOutlines unit(int unit) {
        return new FontFile().table("head", FontFile.head(unit, 0)).read();
    }

    private static void nearest(Checks c) {
        TrueOutlines x = unit(1000);
        c.same("scaled(1000, 12)", x.scaled(1000, 12), 768);
        c.same("scaled(0, 12)", x.scaled(0, 12), 0);
        c.same("scaled(-1000, 12)", x.scaled(-1000, 12), -768);
        TrueOutlines y = unit(128);
        c.same("a half goes up", y.scaled(1, 1), 1);
        c.same("a half below 0 goes up", y.scaled(-1, 1), 0);
        c.same("one and a half", y.scaled(3, 1), 2);
        c.same("one and a half below 0", y.scaled(-3, 1), -1);
        TrueOutlines z = unit(129);
        c.same("less than a half", z.scaled(1, 1), 0);
        c.same("less than a half below 0", z.scaled(-1, 1), 0);
        TrueOutlines odd = unit(127);
        c.same("more than a half", odd.scaled(1, 1), 1);
        c.same("more than a half below 0", odd.scaled(-1, 1), -1);
    }

    private static void edges(Checks c) {
        TrueOutlines x = unit(1);
        c.same("the greatest", x.scaled(Integer.MAX_VALUE, 1000), 137438953408000L);
        c.same("the least", x.scaled(Integer.MIN_VALUE, 1000), -137438953472000L);
        c.same("no dots", x.scaled(Integer.MAX_VALUE, 0), 0);
        TrueOutlines y = unit(65535);
        c.same("the greatest unit", y.scaled(65535, 1000), 64000);
        int[] wrong = {-1, 1001, Integer.MIN_VALUE, Integer.MAX_VALUE};
        for (int dots : wrong) {
            c.same("scaled(1, " + dots + ")", y.scaled(1, dots), -1);
        }
    }

    private static void dotsAtTheirEdges(Checks c) {
        TrueOutlines x = unit(64);
        c.same("0 dots", x.scaled(7, 0), 0);
        c.same("1 dot", x.scaled(7, 1), 7);
        c.same("999 dots", x.scaled(7, 999), 6993);
        c.same("1000 dots", x.scaled(7, 1000), 7000);
        c.same("1001 dots", x.scaled(7, 1001), -1);
        c.same("-1 dots", x.scaled(7, -1), -1);
        c.same("-1 as an answer", x.scaled(-1, 1), -1);
        c.same("1001 dots of no length", x.scaled(0, 1001), -1);
    }

    /** The nearest, by going up one by one: of two that are as near the greater one. */
    private static void halvesOfAll(Checks c) {
        int[] units = {1, 2, 3, 64, 127, 128, 256, 1000, 2048, 65535};
        for (int unit : units) {
            TrueOutlines x = unit(unit);
            for (int length = -20; length <= 20; length++) {
                long exact = 64L * length * 3;
                long near = -4000;
                while (2 * (near + 1) * unit <= 2 * exact + unit) {
                    near++;
                }
                c.same("scaled(" + length + ", 3) by " + unit, x.scaled(length, 3), near);
            }
        }
    }

    private static void whatIsNotThere(Checks c) {
        c.same("a unit of 0", unit(0).scaled(5, 5), 0);
        c.same("a unit of 0, wrong dots", unit(0).scaled(5, 1001), -1);
        byte[] cut = java.util.Arrays.copyOf(FontFile.head(1, 0), 19);
        c.same("a head of 19 bytes", new FontFile().table("head", cut).read().scaled(5, 5), 0);
        byte[] enough = java.util.Arrays.copyOf(FontFile.head(1, 0), 20);
        c.same("a head of 20 bytes", new FontFile().table("head", enough).read().scaled(5, 5), 1600);
        TrueOutlines none = new FontFile().table("maxp", FontFile.maxp(1)).read();
        c.same("no head", none.scaled(5, 5), 0);
        c.same("no head, wrong dots", none.scaled(5, -1), -1);
    }
}
