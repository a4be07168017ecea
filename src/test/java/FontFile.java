import java.util.ArrayList;
import java.util.List;

/** Puts a file of TABLES together. */
final class FontFile {
    private final List<String> tags = new ArrayList<>();
    private final List<byte[]> bodies = new ArrayList<>();
    private final List<Long> sums = new ArrayList<>();

    /** head, maxp, loca and glyf of some SIGNS; the places are told in two bytes. */
    static FontFile of(byte[]... signs) {
        return of(false, signs);
    }

    static FontFile of(boolean longPlaces, byte[]... signs) {
        Bytes glyf = new Bytes();
        Bytes loca = new Bytes();
        for (byte[] sign : signs) {
            putPlace(loca, longPlaces, glyf.size());
            glyf.all(sign);
            if (!longPlaces && sign.length % 2 != 0) {
                glyf.one(0);
            }
        }
        putPlace(loca, longPlaces, glyf.size());
        return new FontFile().table("head", head(1000, longPlaces ? 1 : 0))
                .table("maxp", maxp(signs.length))
                .table("loca", loca.done())
                .table("glyf", glyf.done());
    }

    private static void putPlace(Bytes loca, boolean longPlaces, int place) {
        if (longPlaces) {
            loca.four(place);
        } else {
            loca.two(place / 2);
        }
    }

    static byte[] head(int unit, int form) {
        return new Bytes().four(65536, 0, 0x12345678L, 0x5F0F3CF5L).two(0, unit).zeros(30).two(form, 0).done();
    }

    static byte[] maxp(int signs) {
        return new Bytes().four(65536).two(signs).done();
    }

    static byte[] hhea(int widths) {
        return new Bytes().zeros(34).two(widths).done();
    }

    FontFile table(String tag, byte[] body) {
        boolean countingHead = tag.equals("head") && !tags.contains("head");
        return table(tag, body, sumOf(body, countingHead));
    }

    FontFile table(String tag, byte[] body, long sum) {
        tags.add(tag);
        bodies.add(body);
        sums.add(sum);
        return this;
    }

    static long sumOf(byte[] body, boolean countingHead) {
        long sum = 0;
        for (int i = 0; i < body.length; i++) {
            if (!countingHead || i < 8 || i >= 12) {
                sum += (body[i] & 255L) << (24 - 8 * (i % 4));
            }
        }
        return sum & 0xFFFFFFFFL;
    }

    byte[] bytes() {
        int place = 12 + 16 * tags.size();
        Bytes rows = new Bytes().four(65536).two(tags.size()).two(1, 2, 3);
        Bytes body = new Bytes();
        for (int i = 0; i < tags.size(); i++) {
            rows.text(tags.get(i)).four(sums.get(i), place + body.size(), bodies.get(i).length);
            body.all(bodies.get(i));
        }
        return rows.all(body.done()).done();
    }

    /** A new object that has read this file. */
    TrueOutlines read() {
        TrueOutlines x = new TrueOutlines();
        fill(x, bytes());
        x.read();
        return x;
    }

    /** Adds the bytes, eight at a time. */
    static void fill(TrueOutlines x, byte[] bytes) {
        for (int i = 0; i < bytes.length; i += 8) {
            int n = Math.min(8, bytes.length - i);
            long w = 0;
            for (int k = n - 1; k >= 0; k--) {
                w = w << 8 | bytes[i + k] & 255;
            }
            if (x.add(w, n) < 0) {
                throw new IllegalStateException("the file is too long for this test");
            }
        }
    }
}
