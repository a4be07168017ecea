/** Promise 13: scaled. */
public final class ScaledTest {
    public static void main(String[] args) {
        Checks c = new Checks("ScaledTest");
        nearest(c);
        edges(c);
        whatIsNotThere(c);
        c.end();
    }

    private static TrueOutlines unit(int unit) {
        return new FontFile().table("head", FontFile.head(unit, 0)).read();
    }

    private static void nearest(Checks c) {
        TrueOutlines x = unit(1000);
        c.same("scaled(1000, 12)", x.scaled(1000, 12), 768);
        c.same("scaled(0, 12)", x.scaled(0, 12), 0);
        c.same("scaled(-1000, 12)", x.scaled(-1000, 12), -768);
        TrueOutlines y = unit(128);
        c.same("a half goes up", y.scaled(1, 1), 1);
        c.same("a half below 0 goes up", y.scaled(-1, 1), 0);
        c.same("one and a half", y.scaled(3, 1), 2);
        c.same("one and a half below 0", y.scaled(-3, 1), -1);
        TrueOutlines z = unit(129);
        c.same("less than a half", z.scaled(1, 1), 0);
        c.same("less than a half below 0", z.scaled(-1, 1), 0);
        TrueOutlines odd = unit(127);
        c.same("more than a half", odd.scaled(1, 1), 1);
        c.same("more than a half below 0", odd.scaled(-1, 1), -1);
    }

    private static void edges(Checks c) {
        TrueOutlines x = unit(1);
        c.same("the greatest", x.scaled(Integer.MAX_VALUE, 1000), 137438953408000L);
        c.same("the least", x.scaled(Integer.MIN_VALUE, 1000), -137438953472000L);
        c.same("no dots", x.scaled(Integer.MAX_VALUE, 0), 0);
        TrueOutlines y = unit(65535);
        c.same("the greatest unit", y.scaled(65535, 1000), 64000);
        int[] wrong = {-1, 1001, Integer.MIN_VALUE, Integer.MAX_VALUE};
        for (int dots : wrong) {
            c.same("scaled(1, " + dots + ")", y.scaled(1, dots), -1);
        }
    }

    private static void whatIsNotThere(Checks c) {
        c.same("a unit of 0", unit(0).scaled(5, 5), 0);
        c.same("a unit of 0, wrong dots", unit(0).scaled(5, 1001), -1);
        byte[] cut = java.util.Arrays.copyOf(FontFile.head(1, 0), 19);
        c.same("a head of 19 bytes", new FontFile().table("head", cut).read().scaled(5, 5), 0);
        byte[] enough = java.util.Arrays.copyOf(FontFile.head(1, 0), 20);
        c.same("a head of 20 bytes", new FontFile().table("head", enough).read().scaled(5, 5), 1600);
        TrueOutlines none = new FontFile().table("maxp", FontFile.maxp(1)).read();
        c.same("no head", none.scaled(5, 5), 0);
        c.same("no head, wrong dots", none.scaled(5, -1), -1);
    }
}
