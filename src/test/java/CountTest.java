/** Promise 6: count. */
public final class CountTest {
    public static void main(String[] args) {
        Checks c = new Checks("CountTest");
        ofAFile(c);
        ofRunsWithoutPoints(c);
        signs(c);
        c.end();
    }

    private static void ofAFile(Checks c) {
        int[] line = {0, 0, Sign.ON, 4, 0, Sign.ON};
        int[] dot = {9, 9, Sign.ON};
        TrueOutlines x = FontFile.of(Sign.simple(line, dot, line), Sign.EMPTY, Sign.row(2)).read();
        c.same("count(0)", x.count(0), 4);
        c.same("count(1)", x.count(1), 3);
        c.same("count(2)", x.count(2), 0);
        c.same("count(3) before a run()", x.count(3), 0);
        c.same("count(4) before a run()", x.count(4), 0);
        x.run(0);
        c.same("count(3)", x.count(3), 5);
        c.same("count(4), a contour of one point too", x.count(4), 3);
        x.run(2);
        c.same("count(3) of the latest", x.count(3), 2);
        c.same("count(4) of the latest", x.count(4), 1);
        x.run(3);
        c.same("count(3) of no sign", x.count(3), 0);
        c.same("count(4) of no sign", x.count(4), 0);
        x.cut(2);
        x.cut(1);
        c.same("count(2)", x.count(2), 2);
        int[] others = {-1, 5, 6, Integer.MIN_VALUE, Integer.MAX_VALUE};
        for (int what : others) {
            c.same("count(" + what + ")", x.count(what), -1);
        }
    }

    private static void ofRunsWithoutPoints(Checks c) {
        int[] dot = {9, 9, Sign.ON};
        TrueOutlines x = FontFile.of(true, Sign.row(3), Sign.EMPTY, new byte[3], Sign.simple(dot)).read();
        for (int sign = 1; sign < 3; sign++) {
            x.run(0);
            c.same("count(3)", x.count(3), 3);
            x.run(sign);
            c.same("count(3) of an empty or bad one", x.count(3), 0);
            c.same("count(4) of an empty or bad one", x.count(4), 0);
        }
        c.same("run(3)", x.run(3), 0);
        c.same("count(3) without pieces", x.count(3), 1);
        c.same("count(4) without pieces", x.count(4), 1);
        x.cut(3);
        x.cut(9);
        c.same("count(2) behind a cut() that is refused", x.count(2), 1);
    }

    private static int signsOf(byte[] maxp) {
        return new FontFile().table("maxp", maxp).read().count(1);
    }

    private static void signs(Checks c) {
        c.same("199 signs", signsOf(FontFile.maxp(199)), 199);
        c.same("200 signs", signsOf(FontFile.maxp(200)), 200);
        c.same("201 signs", signsOf(FontFile.maxp(201)), 200);
        c.same("65535 signs", signsOf(FontFile.maxp(65535)), 200);
        c.same("256 signs", signsOf(FontFile.maxp(256)), 200);
        c.same("no signs", signsOf(FontFile.maxp(0)), 0);
        c.same("maxp of 5 bytes", signsOf(new Bytes().four(65536).one(1).done()), 0);
        c.same("no maxp", new FontFile().table("head", new byte[60]).read().count(1), 0);
    }
}
