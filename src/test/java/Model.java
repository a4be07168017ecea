import java.util.ArrayList;
import java.util.Arrays;
import java.util.Collections;
import java.util.Comparator;
import java.util.List;
import java.util.Set;
import java.util.TreeSet;

/**
 * The document's words in their plainest form, to compare the class with. It is slow, and throws where
 * something that is needed is PAST.
 */
final class Model {
    /** Something that is needed is PAST, or not as the document says. */
    static final class Wrong extends RuntimeException {
        private static final long serialVersionUID = 1;
    }

    /** Bytes from a place of the file on; what is not there is PAST. */
    record View(byte[] bytes, int place, long length) {
        int one(long i) {
            if (i < 0 || i >= length || place + i >= bytes.length) {
                throw new Wrong();
            }
            return bytes[place + (int) i] & 255;
        }

        int two(long i) {
            return one(i) * 256 + one(i + 1);
        }

        int signed(long i) {
            return (short) two(i);
        }

        long four(long i) {
            return two(i) * 65536L + two(i + 2);
        }

        View part(long from, long to) {
            if (from >= to) {
                return new View(bytes, 0, 0);
            }
            long end = Math.min(to, length);
            return from >= end ? new View(bytes, 0, 0) : new View(bytes, place + (int) from, end - from);
        }
    }

    record Entry(String tag, long sum, View view) {
    }

    record Point(int x, int y, boolean on, boolean last) {
    }

    private byte[] file = new byte[0];
    private List<Entry> tables = new ArrayList<>();
    private final Set<Integer> used = new TreeSet<>();
    private final List<int[]> told = new ArrayList<>();
    private List<Point> points = new ArrayList<>();
    private final List<int[]> pieces = new ArrayList<>();
    private byte[] written = new byte[0];
    private int made;

    private static View none() {
        return new View(new byte[0], 0, 0);
    }

    private Entry first(String tag) {
        for (Entry entry : tables) {
            if (entry.tag.equals(tag)) {
                return entry;
            }
        }
        return null;
    }

    private View view(String tag) {
        Entry entry = first(tag);
        return entry == null ? none() : entry.view;
    }

    int add(long w, int n) {
        if (n < 1 || n > 8 || file.length + n > 1600) {
            return -1;
        }
        byte[] more = Arrays.copyOf(file, file.length + n);
        for (int i = 0; i < n; i++) {
            more[file.length + i] = (byte) (w >>> 8 * i);
        }
        file = more;
        return file.length;
    }

    int read() {
        told.clear();
        used.clear();
        tables = new ArrayList<>();
        if (file.length < 12) {
            return -1;
        }
        View all = new View(file, 0, file.length);
        List<Entry> found = new ArrayList<>();
        for (int i = 0; i < Math.min(24, all.two(4)); i++) {
            int row = 12 + 16 * i;
            if (row + 16 > file.length || all.four(row + 8) + all.four(row + 12) > file.length) {
                return -1 - i;
            }
            StringBuilder tag = new StringBuilder();
            for (int k = 0; k < 4; k++) {
                tag.append((char) all.one(row + k));
            }
            found.add(new Entry(tag.toString(), all.four(row + 4),
                    new View(file, (int) all.four(row + 8), all.four(row + 12))));
        }
        tables = found;
        for (int i = 0; i < tables.size(); i++) {
            if (sum(i) != tables.get(i).sum) {
                tell(2, i);
            }
        }
        return tables.size();
    }

    private void tell(int kind, int number) {
        if (told.size() < 100) {
            told.add(new int[] {kind, number});
        }
    }

    /** Below 0 where the call throws. */
    int octet(int table, int i) {
        try {
            return table < 0 || table >= tables.size() ? -1 : tables.get(table).view.one(i);
        } catch (Wrong e) {
            return -1;
        }
    }

    private static byte[] bytesOf(View view) {
        byte[] bytes = new byte[(int) view.length];
        for (int i = 0; i < bytes.length; i++) {
            bytes[i] = (byte) view.one(i);
        }
        return bytes;
    }

    long sum(int table) {
        if (table < 0 || table >= tables.size()) {
            return -1;
        }
        byte[] bytes = bytesOf(tables.get(table).view);
        if (tables.get(table) == first("head")) {
            for (int i = 8; i < 12 && i < bytes.length; i++) {
                bytes[i] = 0;
            }
        }
        return sumOf(bytes);
    }

    private static long sumOf(byte[] bytes) {
        byte[] padded = Arrays.copyOf(bytes, (bytes.length + 3) / 4 * 4);
        View view = new View(padded, 0, padded.length);
        long sum = 0;
        for (int i = 0; i < padded.length; i += 4) {
            sum = (sum + view.four(i)) % 4294967296L;
        }
        return sum;
    }

    private int signsAsTold() {
        try {
            return view("maxp").two(4);
        } catch (Wrong e) {
            return 0;
        }
    }

    int signs() {
        return Math.min(200, signsAsTold());
    }

    int contours() {
        int count = 0;
        for (Point point : points) {
            count += point.last ? 1 : 0;
        }
        return count;
    }

    int count(int what) {
        int[] all = {tables.size(), signs(), used.size(), points.size(), contours()};
        return what < 0 || what >= all.length ? -1 : all[what];
    }

    int map(int code) {
        try {
            long sign = code < 0 ? 0 : signOf(code);
            return sign < signs() ? (int) sign : 0;
        } catch (Wrong e) {
            return 0;
        }
    }

    private long signOf(int code) {
        View cmap = view("cmap");
        for (int k = 0; k < cmap.two(2); k++) {
            long place = cmap.four(4 + 8 * k + 4);
            View map = cmap.part(place, cmap.length);
            switch (map.two(0)) {
                case 0:
                    return code < 256 ? map.one(6 + code) : 0;
                case 4:
                    return inSegments(map, code);
                case 6:
                    int behind = code - map.two(6);
                    return behind >= 0 && behind < map.two(8) ? map.two(10 + 2L * behind) : 0;
                case 12:
                    return inGroups(map, code);
                default:
                    break;
            }
        }
        return 0;
    }

    private static long inGroups(View map, int code) {
        for (long k = 0; k < map.four(12); k++) {
            long group = 16 + 12 * k;
            if (map.four(group) <= code && code <= map.four(group + 4)) {
                return map.four(group + 8) + code - map.four(group);
            }
        }
        return 0;
    }

    private static long inSegments(View map, int code) {
        int s = map.two(6);
        int k = 0;
        while (k < s / 2 && map.two(14 + 2 * k) < code) {
            k++;
        }
        if (k >= s / 2 || map.two(16 + s + 2 * k) > code) {
            return 0;
        }
        int d = map.two(16 + 2 * s + 2 * k);
        int o = map.two(16 + 3 * s + 2 * k);
        if (o == 0) {
            return (code + d) % 65536;
        }
        int found = map.two(16 + 3 * s + 2 * k + o + 2 * (code - map.two(16 + s + 2 * k)));
        return found == 0 ? 0 : (found + d) % 65536;
    }

    private boolean hasLongPlaces() {
        try {
            return view("head").two(50) == 1;
        } catch (Wrong e) {
            return false;
        }
    }

    private long place(int i) {
        return hasLongPlaces() ? view("loca").four(4 * i) : 2L * view("loca").two(2 * i);
    }

    private boolean isEmpty(int sign) {
        return place(sign) == place(sign + 1);
    }

    private View data(int sign) {
        return view("glyf").part(place(sign), place(sign + 1));
    }

    int run(int sign) {
        told.clear();
        pieces.clear();
        points = new ArrayList<>();
        if (sign < 0 || sign >= signs()) {
            return -1;
        }
        made = 0;
        points = pointsOf(sign, new ArrayList<>());
        makePieces();
        return pieces.size();
    }

    /** made is how many POINTS there are of all SIGNS so far. */
    private List<Point> pointsOf(int sign, List<Integer> outer) {
        int before = made;
        try {
            if (isEmpty(sign)) {
                return new ArrayList<>();
            }
            View data = data(sign);
            if (data.signed(0) >= 0) {
                return simple(data);
            }
            List<Integer> inner = new ArrayList<>(outer);
            inner.add(sign);
            return composite(data, inner);
        } catch (Wrong e) {
            made = before;
            tell(1, sign);
            return new ArrayList<>();
        }
    }

    private List<Point> simple(View data) {
        int contours = data.signed(0);
        Set<Integer> lasts = new TreeSet<>();
        int n = 0;
        for (int i = 0; i < contours; i++) {
            int last = data.two(10 + 2 * i);
            if (last < n) {
                throw new Wrong();
            }
            lasts.add(last);
            n = last + 1;
        }
        int place = 10 + 2 * contours;
        int passed = data.two(place);
        place += 2;
        for (int i = 0; i < passed; i++) {
            data.one(place + i);
        }
        place += passed;
        if (made + n > 120) {
            throw new Wrong();
        }
        int[] flags = new int[n];
        for (int i = 0; i < n; i++) {
            flags[i] = data.one(place++);
            if ((flags[i] & 8) != 0) {
                int more = data.one(place++);
                if (i + more >= n) {
                    throw new Wrong();
                }
                for (int k = 0; k < more; k++) {
                    flags[i + 1] = flags[i];
                    i++;
                }
            }
        }
        int[] xs = new int[n];
        place = axis(data, place, flags, xs, 2, 16);
        int[] ys = new int[n];
        axis(data, place, flags, ys, 4, 32);
        List<Point> all = new ArrayList<>();
        for (int i = 0; i < n; i++) {
            all.add(new Point(xs[i], ys[i], (flags[i] & 1) != 0, lasts.contains(i)));
        }
        made += n;
        return all;
    }

    private static int axis(View data, int from, int[] flags, int[] values, int isByte, int isSame) {
        int place = from;
        int value = 0;
        for (int i = 0; i < flags.length; i++) {
            if ((flags[i] & isByte) != 0) {
                value += (flags[i] & isSame) != 0 ? data.one(place) : -data.one(place);
                place++;
            } else if ((flags[i] & isSame) == 0) {
                value += data.signed(place);
                place += 2;
            }
            values[i] = value;
        }
        return place;
    }

    /** What a PART tells, and where the next one begins. */
    record Part(int f, int sign, int first, int second, long[] scales, int next) {
        static Part at(View data, int from) {
            int f = data.two(from);
            int sign = data.two(from + 2);
            boolean wide = (f & 1) != 0;
            int place = from + 4;
            int first = wide ? data.two(place) : data.one(place);
            place += wide ? 2 : 1;
            int second = wide ? data.two(place) : data.one(place);
            place += wide ? 2 : 1;
            if ((f & 2) != 0) {
                first = wide ? (short) first : (byte) first;
                second = wide ? (short) second : (byte) second;
            }
            int count = (f & 8) != 0 ? 1 : (f & 64) != 0 ? 2 : (f & 128) != 0 ? 4 : 0;
            long[] told = new long[4];
            for (int i = 0; i < count; i++) {
                told[i] = data.signed(place + 2 * i);
            }
            long[] scales = count == 4 ? told : count == 2 ? new long[] {told[0], 0, 0, told[1]}
                    : count == 1 ? new long[] {told[0], 0, 0, told[0]} : new long[] {16384, 0, 0, 16384};
            return new Part(f, sign, first, second, scales, place + 2 * count);
        }
    }

    private List<Point> composite(View data, List<Integer> openSigns) {
        List<Point> all = new ArrayList<>();
        int place = 10;
        while (true) {
            Part part = Part.at(data, place);
            if (part.sign >= signs() || openSigns.contains(part.sign) || openSigns.size() > 5) {
                tell(4, part.sign);
            } else {
                List<Point> more = scaled(pointsOf(part.sign, openSigns), part.scales);
                int x = part.first;
                int y = part.second;
                if ((part.f & 2) == 0) {
                    boolean there = part.first < all.size() && part.second < more.size();
                    if (!there) {
                        tell(3, part.sign);
                    }
                    x = there ? all.get(part.first).x - more.get(part.second).x : 0;
                    y = there ? all.get(part.first).y - more.get(part.second).y : 0;
                }
                for (Point point : more) {
                    all.add(new Point(point.x + x, point.y + y, point.on, point.last));
                }
            }
            if ((part.f & 32) == 0) {
                return all;
            }
            place = part.next;
        }
    }

    private static List<Point> scaled(List<Point> points, long[] by) {
        List<Point> all = new ArrayList<>();
        for (Point point : points) {
            long x = by[0] * point.x + by[2] * point.y + 8192;
            long y = by[1] * point.x + by[3] * point.y + 8192;
            all.add(new Point((int) (x >> 14), (int) (y >> 14), point.on, point.last));
        }
        return all;
    }

    private void makePieces() {
        List<Point> contour = new ArrayList<>();
        int number = 0;
        for (Point point : points) {
            contour.add(point);
            if (point.last) {
                if (contour.size() > 1) {
                    makePieces(contour, number);
                }
                number++;
                contour = new ArrayList<>();
            }
        }
    }

    /** All POINTS in halves, with the middles between them; then round from the first one that is ON. */
    private void makePieces(List<Point> contour, int number) {
        List<Point> round = new ArrayList<>();
        int start = -1;
        for (int i = 0; i < contour.size(); i++) {
            Point point = contour.get(i);
            Point next = contour.get((i + 1) % contour.size());
            start = start < 0 && point.on ? round.size() : start;
            round.add(new Point(2 * point.x, 2 * point.y, point.on, false));
            if (!point.on && !next.on) {
                round.add(new Point(point.x + next.x, point.y + next.y, true, false));
            }
        }
        Collections.rotate(round, start < 0 ? 1 : -start);
        round.add(round.get(0));
        int i = 0;
        while (i + 1 < round.size()) {
            Point from = round.get(i);
            Point by = round.get(i + 1);
            if (by.on) {
                pieces.add(new int[] {number, 0, from.x, from.y, 0, 0, by.x, by.y});
                i++;
            } else {
                Point to = round.get(i + 2);
                pieces.add(new int[] {number, 1, from.x, from.y, by.x, by.y, to.x, to.y});
                i += 2;
            }
        }
    }

    /** Null where the call throws. */
    Integer piece(int i, int what) {
        boolean there = i >= 0 && i < pieces.size() && what >= 0 && what < 8;
        return there ? pieces.get(i)[what] : null;
    }

    /** Null where the call throws. */
    Integer told(int i, int what) {
        if (i == -1) {
            return told.size();
        }
        boolean there = i >= 0 && i < told.size() && what >= 0 && what < 2;
        return there ? told.get(i)[what] : null;
    }

    int width(int sign) {
        try {
            int k = view("hhea").two(34);
            boolean none = k == 0 || sign < 0 || sign >= signs();
            return none ? 0 : view("hmtx").two(4L * (k - 1 < sign ? k - 1 : sign));
        } catch (Wrong e) {
            return 0;
        }
    }

    int kern(int a, int b) {
        try {
            View kern = view("kern");
            for (int i = 0; i < kern.two(10); i++) {
                int row = 18 + 6 * i;
                if (kern.two(row) == a && kern.two(row + 2) == b) {
                    return kern.signed(row + 4);
                }
            }
            return 0;
        } catch (Wrong e) {
            return 0;
        }
    }

    long scaled(int length, int dots) {
        if (dots < 0 || dots > 1000) {
            return -1;
        }
        try {
            int unit = view("head").two(18);
            return unit == 0 ? 0 : (long) Math.floor((64.0 * length * dots + unit / 2.0) / unit);
        } catch (Wrong e) {
            return 0;
        }
    }

    int cut(int sign) {
        if (sign < 0 || sign >= signs()) {
            return -1;
        }
        use(sign);
        return used.size();
    }

    private void use(int sign) {
        if (sign >= signs() || !used.add(sign)) {
            return;
        }
        try {
            View data = data(sign);
            int place = 10;
            boolean more = data.signed(0) < 0;
            while (more) {
                Part part = Part.at(data, place);
                use(part.sign);
                place = part.next;
                more = (part.f & 32) != 0;
            }
        } catch (Wrong e) {
            return;
        }
    }

    private byte[] dataToWrite(int sign) {
        try {
            long from = place(sign);
            long to = place(sign + 1);
            boolean bad = from > to || from > view("glyf").length || to > view("glyf").length;
            byte[] bytes = bad || !used.contains(sign) ? new byte[0] : bytesOf(data(sign));
            return Arrays.copyOf(bytes, (bytes.length + 1) / 2 * 2);
        } catch (Wrong e) {
            return new byte[0];
        }
    }

    private byte[] bodyToWrite(Entry entry) {
        byte[] body = bytesOf(entry.view);
        if (entry == first("glyf") || entry == first("loca")) {
            Bytes glyf = new Bytes();
            Bytes loca = new Bytes();
            for (int i = 0; i <= signs(); i++) {
                if (hasLongPlaces()) {
                    loca.four(glyf.size());
                } else {
                    loca.two(glyf.size() / 2);
                }
                glyf.all(i < signs() ? dataToWrite(i) : new byte[0]);
            }
            return entry == first("glyf") ? glyf.done() : loca.done();
        }
        if (entry == first("head")) {
            Arrays.fill(body, 8, 12, (byte) 0);
        }
        return body;
    }

    int write() {
        boolean there = first("head") != null && first("maxp") != null && first("loca") != null && first("glyf") != null;
        if (!there || view("head").length < 52 || signsAsTold() > 200) {
            return -1;
        }
        List<Entry> sorted = new ArrayList<>(tables);
        sorted.sort(Comparator.comparing(Entry::tag));
        Bytes rows = new Bytes().all(Arrays.copyOf(file, 12));
        Bytes bodies = new Bytes();
        int head = 0;
        for (Entry entry : sorted) {
            byte[] body = bodyToWrite(entry);
            int place = 12 + 16 * sorted.size() + bodies.size();
            head = entry == first("head") ? place : head;
            rows.text(entry.tag).four(sumOf(body), place, body.length);
            bodies.all(body).zeros((4 - body.length % 4) % 4);
        }
        byte[] all = rows.all(bodies.done()).done();
        if (all.length > 2400) {
            return -1;
        }
        byte[] sum = new Bytes().four(Math.floorMod(2981146554L - sumOf(all), 4294967296L)).done();
        System.arraycopy(sum, 0, all, head + 8, 4);
        written = all;
        return all.length;
    }

    int at(int i) {
        return i < 0 || i >= written.length ? -1 : written[i] & 255;
    }
}
