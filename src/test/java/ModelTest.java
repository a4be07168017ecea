import java.util.Random;

/** All promises: files by chance, always the same ones, on which the class and the model must agree. */
public final class ModelTest {
    private static final int FILES = 1500;

    private final Checks c;
    private final Random chance;
    private final Model model = new Model();
    private final TrueOutlines x = new TrueOutlines();
    private final String name;

    private ModelTest(Checks c, long seed) {
        this.c = c;
        chance = new Random(seed);
        name = "file " + seed + ": ";
    }

    /** Two numbers: how many files, and the first one's seed. */
    public static void main(String[] args) {
        Checks c = new Checks("ModelTest");
        int files = args.length < 2 ? FILES : Integer.parseInt(args[0]);
        long first = args.length < 2 ? 1 : Long.parseLong(args[1]);
        for (int i = 0; i < files; i++) {
            new ModelTest(c, first + i).compare();
        }
        c.end();
    }

    private void compare() {
        add(new RandomFile(chance).bytes());
        same("read()", x.read(), model.read());
        int calls = 12 + chance.nextInt(20);
        for (int i = 0; i < calls; i++) {
            call();
        }
        same("at the end: write()", x.write(), model.write());
        compareWritten();
    }

    private void same(String call, long got, long want) {
        c.same(name + call, got, want);
    }

    private void add(byte[] bytes) {
        int i = 0;
        while (i < bytes.length) {
            int n = Math.min(1 + chance.nextInt(8), bytes.length - i);
            long w = chance.nextLong();
            for (int k = n - 1; k >= 0; k--) {
                w = w << 8 | bytes[i + k] & 255;
            }
            same("add", x.add(w, n), model.add(w, n));
            i += n;
        }
    }

    private int number(int most) {
        int kind = chance.nextInt(40);
        return kind == 0 ? -1 - chance.nextInt(3) : kind == 1 ? chance.nextInt() : chance.nextInt(most);
    }

    private void call() {
        int signs = model.signs();
        int a = number(signs + 2);
        int b = number(signs + 2);
        switch (chance.nextInt(12)) {
            case 0:
            case 1:
            case 2:
            case 3:
                same("run(" + a + ")", x.run(a), model.run(a));
                compareRun();
                break;
            case 4:
                same("cut(" + a + ")", x.cut(a), model.cut(a));
                break;
            case 5:
                same("write()", x.write(), model.write());
                break;
            case 6:
                compareCodes();
                break;
            case 7:
                same("width(" + a + ")", x.width(a), model.width(a));
                break;
            case 8:
                compareKern();
                break;
            case 9:
                same("scaled(" + a + ", " + b + ")", x.scaled(a, b), model.scaled(a, b));
                int length = chance.nextInt();
                int dots = chance.nextInt(1003) - 1;
                same("scaled(" + length + ", " + dots + ")", x.scaled(length, dots), model.scaled(length, dots));
                break;
            case 10:
                compareTable(number(14));
                break;
            default:
                if (chance.nextInt(6) == 0) {
                    same("read() again", x.read(), model.read());
                }
                compareCounts();
        }
    }

    private void compareCounts() {
        for (int what = -1; what < 6; what++) {
            same("count(" + what + ")", x.count(what), model.count(what));
        }
        int tolds = model.told(-1, 0);
        same("told(-1, 0)", x.told(-1, 0), tolds);
        for (int i = 0; i < tolds && i < x.told(-1, 0); i++) {
            same("told(" + i + ", 0)", x.told(i, 0), model.told(i, 0));
            same("told(" + i + ", 1)", x.told(i, 1), model.told(i, 1));
        }
        c.fails(name + "told behind the last one", IndexOutOfBoundsException.class, () -> x.told(tolds, 0));
    }

    private void compareRun() {
        compareCounts();
        int i = 0;
        while (model.piece(i, 0) != null) {
            for (int what = 0; what < 8; what++) {
                same("piece(" + i + ", " + what + ")", x.piece(i, what), model.piece(i, what));
            }
            i++;
        }
        int behind = i;
        c.fails(name + "piece behind the last one", IndexOutOfBoundsException.class, () -> x.piece(behind, 0));
    }

    private void compareCodes() {
        for (int code = -1; code < 90; code++) {
            same("map(" + code + ")", x.map(code), model.map(code));
        }
        int[] more = {255, 256, 65534, 65535, 65536, chance.nextInt(), chance.nextInt(65536)};
        for (int code : more) {
            same("map(" + code + ")", x.map(code), model.map(code));
        }
    }

    private void compareKern() {
        for (int a = -1; a < 5; a++) {
            for (int b = -1; b < 5; b++) {
                same("kern(" + a + ", " + b + ")", x.kern(a, b), model.kern(a, b));
            }
        }
    }

    private void compareTable(int table) {
        same("sum(" + table + ")", x.sum(table), model.sum(table));
        int i = number(60);
        int want = model.octet(table, i);
        if (want >= 0) {
            same("octet(" + table + ", " + i + ")", x.octet(table, i), want);
        } else {
            c.fails(name + "octet(" + table + ", " + i + ")", ArrayIndexOutOfBoundsException.class,
                    () -> x.octet(table, i));
        }
    }

    private void compareWritten() {
        for (int i = -1; i <= 2400; i++) {
            same("at(" + i + ")", x.at(i), model.at(i));
        }
    }
}
