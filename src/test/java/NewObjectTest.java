import java.lang.reflect.Modifier;
import java.util.Arrays;

/** Promise 1: a new object has no bytes, and nothing is read; and the face is that of the document. */
public final class NewObjectTest {
    private static final String[] FACE = {
        "add", "at", "count", "cut", "kern", "map", "octet", "piece",
        "read", "run", "scaled", "sum", "told", "width", "write"
    };

    public static void main(String[] args) {
        Checks c = new Checks("NewObjectTest");
        nothingIsThere(c);
        bytesThatAreNotRead(c);
        objectsAreApart(c);
        faceIsThatOfTheDocument(c);
        c.end();
    }

    private static void nothingIsThere(Checks c) {
        TrueOutlines x = new TrueOutlines();
        nothingIsRead(c, x);
        c.same("read()", x.read(), -1);
        c.same("add(1, 1)", x.add(1, 1), 1);
    }

    private static void bytesThatAreNotRead(Checks c) {
        TrueOutlines x = new TrueOutlines();
        FontFile.fill(x, FontFile.of(Sign.row(2)).bytes());
        nothingIsRead(c, x);
        c.same("read()", x.read(), 4);
        c.same("run(0) of what is read", x.run(0), 2);
    }

    private static void nothingIsRead(Checks c, TrueOutlines x) {
        for (int what = 0; what < 5; what++) {
            c.same("count(" + what + ")", x.count(what), 0);
        }
        c.same("map(65)", x.map(65), 0);
        c.same("run(0)", x.run(0), -1);
        c.same("told(-1, 0)", x.told(-1, 0), 0);
        c.same("width(0)", x.width(0), 0);
        c.same("kern(0, 0)", x.kern(0, 0), 0);
        c.same("scaled(1, 1)", x.scaled(1, 1), 0);
        c.same("cut(0)", x.cut(0), -1);
        c.same("write()", x.write(), -1);
        c.same("at(0)", x.at(0), -1);
        c.same("sum(0)", x.sum(0), -1);
        c.fails("octet(0, 0)", ArrayIndexOutOfBoundsException.class, () -> x.octet(0, 0));
        c.fails("piece(0, 0)", IndexOutOfBoundsException.class, () -> x.piece(0, 0));
        c.fails("told(0, 0)", IndexOutOfBoundsException.class, () -> x.told(0, 0));
    }

    private static void objectsAreApart(Checks c) {
        TrueOutlines x = FontFile.of(Sign.row(3)).read();
        x.cut(0);
        TrueOutlines y = new TrueOutlines();
        c.same("count(0) of a second object", y.count(0), 0);
        c.same("count(2) of a second object", y.count(2), 0);
        c.same("count(2) of the first one", x.count(2), 1);
    }

    private static void faceIsThatOfTheDocument(Checks c) {
        String[] names = Arrays.stream(TrueOutlines.class.getDeclaredMethods())
                .filter(m -> !Modifier.isPrivate(m.getModifiers()))
                .map(m -> m.getName()).sorted().toArray(String[]::new);
        c.same("the methods are those of the face", Arrays.equals(names, FACE) ? 1 : 0, 1);
        c.same("the constructors", TrueOutlines.class.getConstructors().length, 1);
        c.same("the public fields", TrueOutlines.class.getFields().length, 0);
        c.same("final", Modifier.isFinal(TrueOutlines.class.getModifiers()) ? 1 : 0, 1);
    }
}
