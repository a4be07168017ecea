import java.util.ArrayList;
import java.util.Arrays;
import java.util.Collections;
import java.util.List;
import java.util.Random;

/** A file of TABLES by chance, most of it as it should be, some of it not. */
final class RandomFile {
    private final Random chance;
    private int signs;

    RandomFile(Random chance) {
        this.chance = chance;
    }

    private boolean oneIn(int n) {
        return chance.nextInt(n) == 0;
    }

    private int below(int n) {
        return chance.nextInt(n);
    }

    byte[] bytes() {
        signs = oneIn(40) ? 195 + below(12) : below(12);
        boolean longPlaces = oneIn(2);
        byte[][] all = new byte[signs][];
        for (int i = 0; i < signs; i++) {
            all[i] = signs > 100 && !oneIn(20) ? Sign.EMPTY : sign();
        }
        List<Object[]> tables = new ArrayList<>();
        put(tables, "head", cutAtTimes(FontFile.head(oneIn(10) ? 0 : 1 + below(2100), longPlaces ? 1 : below(2) * 2)));
        put(tables, "maxp", cutAtTimes(FontFile.maxp(signs)));
        putSigns(tables, all, longPlaces);
        put(tables, "cmap", cmap());
        put(tables, "hhea", cutAtTimes(FontFile.hhea(below(signs + 2))));
        put(tables, "hmtx", twos(below(2 * signs + 4)));
        put(tables, "kern", kern());
        for (int i = below(3); i > 0; i--) {
            String[] tags = {"head", "maxp", "loca", "glyf", "cmap", "kern", "aaaa", "zzzz", "\u00ff   "};
            put(tables, tags[below(tags.length)], twos(below(12)));
        }
        Collections.shuffle(tables, chance);
        return change(file(tables));
    }

    private void put(List<Object[]> tables, String tag, byte[] body) {
        if (!oneIn(30)) {
            tables.add(new Object[] {tag, body});
        }
    }

    private byte[] file(List<Object[]> tables) {
        FontFile file = new FontFile();
        for (Object[] table : tables) {
            if (oneIn(15)) {
                file.table((String) table[0], (byte[]) table[1], below(1000));
            } else {
                file.table((String) table[0], (byte[]) table[1]);
            }
        }
        return file.bytes();
    }

    /** Changes some bytes of a file in four, and cuts one in twenty. */
    private byte[] change(byte[] file) {
        if (oneIn(4)) {
            for (int i = 1 + below(4); i > 0; i--) {
                int place = oneIn(4) ? below(Math.min(file.length, 200)) : below(file.length);
                file[place] = (byte) (oneIn(2) ? below(256) : below(4));
            }
        }
        int size = Math.min(file.length, 1600);
        return Arrays.copyOf(file, oneIn(20) ? below(size + 1) : size);
    }

    private byte[] cutAtTimes(byte[] bytes) {
        return oneIn(25) ? Arrays.copyOf(bytes, below(bytes.length + 1)) : bytes;
    }

    private byte[] twos(int count) {
        Bytes bytes = new Bytes();
        for (int i = 0; i < count; i++) {
            bytes.two(oneIn(5) ? below(65536) : below(300));
        }
        return oneIn(8) ? bytes.one(below(256)).done() : bytes.done();
    }

    private void putSigns(List<Object[]> tables, byte[][] all, boolean longPlaces) {
        Bytes glyf = new Bytes();
        Bytes loca = new Bytes();
        for (int i = 0; i <= all.length; i++) {
            int place = oneIn(60) ? below(glyf.size() + 9) : glyf.size();
            if (longPlaces) {
                loca.four(place);
            } else {
                loca.two(place / 2);
            }
            if (i < all.length) {
                glyf.all(all[i]).zeros(longPlaces ? 0 : all[i].length % 2);
            }
        }
        put(tables, "loca", cutAtTimes(loca.done()));
        put(tables, "glyf", cutAtTimes(glyf.done()));
    }

    private byte[] sign() {
        int kind = below(20);
        if (kind < 2) {
            return Sign.EMPTY;
        }
        if (kind < 3) {
            return twos(below(12));
        }
        return cutAtTimes(kind < 11 ? simple() : composite());
    }

    private byte[] simple() {
        int contours = oneIn(12) ? 0 : 1 + below(3);
        Bytes data = Sign.header(contours);
        int points = 0;
        for (int i = 0; i < contours; i++) {
            points += oneIn(25) ? below(70) : 1 + below(5);
            data.two(points - 1);
        }
        int passed = oneIn(4) ? below(4) : 0;
        data.two(passed).zeros(passed);
        int[] flags = new int[points];
        for (int i = 0; i < points; i++) {
            flags[i] = oneIn(3) ? below(256) & ~8 : below(2) + 2 + 4 + 16 * below(4);
            data.one(flags[i]);
            if (oneIn(6)) {
                i = repeat(data, flags, i);
            }
        }
        steps(data, flags, 2, 16);
        steps(data, flags, 4, 32);
        return data.done();
    }

    /** Gives the flag just written 8, and to some that come behind it the same. */
    private int repeat(Bytes data, int[] flags, int i) {
        byte[] sofar = data.done();
        sofar[sofar.length - 1] |= 8;
        flags[i] |= 8;
        int more = Math.min(flags.length - 1 - i, below(4));
        data.clear().all(sofar).one(more + (oneIn(20) ? 1 : 0));
        for (int k = 1; k <= more; k++) {
            flags[i + k] = flags[i];
        }
        return i + more;
    }

    private void steps(Bytes data, int[] flags, int isByte, int isSame) {
        for (int flag : flags) {
            if ((flag & isByte) != 0) {
                data.one(below(256));
            } else if ((flag & isSame) == 0) {
                data.two(oneIn(3) ? below(65536) : below(50));
            }
        }
    }

    private byte[] composite() {
        Bytes data = Sign.header(oneIn(5) ? -below(32768) - 1 : -1);
        int parts = 1 + below(oneIn(8) ? 7 : 3);
        for (int i = 0; i < parts; i++) {
            int[] scales = {0, 0, 0, 8, 64, 128, 8 + 64, 64 + 128};
            int f = below(2) + (oneIn(4) ? 0 : 2) + scales[below(8)] + (i + 1 < parts ? 32 : 0) + (oneIn(9) ? 256 : 0);
            data.two(f, oneIn(15) ? below(65536) : below(signs + 1));
            number(data, f);
            number(data, f);
            int count = (f & 8) != 0 ? 1 : (f & 64) != 0 ? 2 : (f & 128) != 0 ? 4 : 0;
            for (int k = 0; k < count; k++) {
                data.two(oneIn(3) ? below(65536) : 8192 * below(8));
            }
        }
        return data.done();
    }

    private void number(Bytes data, int f) {
        int value = (f & 2) == 0 ? below(7) : below(65536);
        if ((f & 1) != 0) {
            data.two(value);
        } else {
            data.one(value);
        }
    }

    private byte[] kern() {
        int rows = below(8);
        Bytes kern = new Bytes().two(0, 0, 0, 0, 0, oneIn(8) ? below(40) : rows, 0, 0, 0);
        for (int i = 0; i < rows; i++) {
            kern.two(below(4), below(4), below(65536));
        }
        return cutAtTimes(kern.done());
    }

    private byte[] cmap() {
        int rows = 1 + below(3);
        Bytes places = new Bytes().two(0, oneIn(12) ? below(5) : rows);
        Bytes maps = new Bytes();
        for (int i = 0; i < rows; i++) {
            int place = 4 + 8 * rows + maps.size();
            places.two(below(4), below(4)).four(oneIn(30) ? below(400) : place);
            maps.all(map());
        }
        return cutAtTimes(places.all(maps.done()).done());
    }

    private byte[] map() {
        switch (below(5)) {
            case 0:
                Bytes bytes = new Bytes().two(0, 0, below(600));
                for (int i = below(80); i > 0; i--) {
                    bytes.one(below(signs + 2));
                }
                return bytes.done();
            case 1:
                return segments();
            case 2:
                int count = below(9);
                Bytes row = new Bytes().two(6, 0, 0, below(70), count);
                for (int i = 0; i < count; i++) {
                    row.two(below(signs + 2));
                }
                return row.done();
            case 3:
                int groups = below(4);
                Bytes all = new Bytes().two(12, 0).four(0, 0, groups);
                for (int i = 0; i < groups; i++) {
                    int first = below(70);
                    all.four(first, first + below(9), below(signs + 2));
                }
                return all.done();
            default:
                return new Bytes().two(1 + below(20), 0, 0, 0).done();
        }
    }

    private byte[] segments() {
        int count = 1 + below(4);
        Bytes lasts = new Bytes();
        Bytes firsts = new Bytes();
        Bytes deltas = new Bytes();
        Bytes places = new Bytes();
        int code = 0;
        for (int i = 0; i < count; i++) {
            int first = code + below(12);
            code = first + below(9);
            firsts.two(first);
            lasts.two(i == count - 1 && oneIn(3) ? 65535 : code);
            deltas.two(oneIn(4) ? below(9) : 65536 - first + below(9));
            places.two(oneIn(2) ? 0 : 2 * (count - i) + 2 * below(4));
        }
        Bytes map = new Bytes().two(4, 0, 0, 2 * count + (oneIn(40) ? 1 : 0), 0, 0, 0);
        map.all(lasts.done()).two(0).all(firsts.done()).all(deltas.done()).all(places.done());
        for (int i = below(12); i > 0; i--) {
            map.two(below(signs + 3));
        }
        return map.done();
    }
}
