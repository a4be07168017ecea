/**
 * Outlines in a file of tables: signs by codes, contours of simple and composite signs as lines and
 * curves, widths, kerning, sums; cut to the signs that are used, and written anew.
 */
public final class TrueOutlines {
    private static final int FILE_MOST = 1600;
    private static final int WRITTEN_MOST = 2400;
    private static final int TABLES_MOST = 24;
    private static final int SIGNS_MOST = 200;
    private static final int POINTS_MOST = 120;
    private static final int TOLD_MOST = 100;
    private static final int DOTS_MOST = 1000;

    /** A SIGN may lie in this many others at most. */
    private static final int DEEPEST = 5;

    /** What is answered for a place that is PAST: no byte, TWO or FOUR has this value. */
    private static final int PAST = -1;

    private static final int FILE_HEADER = 12;
    private static final int ROW_OF_TABLE = 16;
    private static final int ROW_OF_PIECE = 8;
    private static final int HEAD_LEAST = 52;
    private static final int HEAD_FILE_SUM = 8;
    private static final long WHOLE_FILE_SUM = 2981146554L;
    private static final long LOW_32_BITS = 0xFFFFFFFFL;

    private static final long CMAP = 0x636D6170L;
    private static final long GLYF = 0x676C7966L;
    private static final long HEAD = 0x68656164L;
    private static final long HHEA = 0x68686561L;
    private static final long HMTX = 0x686D7478L;
    private static final long KERN = 0x6B65726EL;
    private static final long LOCA = 0x6C6F6361L;
    private static final long MAXP = 0x6D617870L;

    private static final int TOLD_BAD = 1;
    private static final int TOLD_SUM = 2;
    private static final int TOLD_POINT = 3;
    private static final int TOLD_LEFT_OUT = 4;

    private final Row file;
    private final Telling telling;
    private final Tables tables;
    private final Signs signs;
    private final Codes codes;
    private final Shaper shaper;
    private final Pieces pieces;
    private final Writer writer;

    public TrueOutlines() {
        file = new Row(new int[FILE_MOST]);
        telling = new Telling();
        tables = new Tables(file);
        signs = new Signs(file, tables);
        codes = new Codes(tables);
        shaper = new Shaper(file, signs, telling);
        pieces = new Pieces();
        writer = new Writer(file, tables, signs);
    }

    public int add(long w, int n) {
        if (n < 1 || n > 8 || file.size() + n > FILE_MOST) {
            return -1;
        }
        for (int i = 0; i < n; i++) {
            file.push((int) (w >> (8 * i)));
        }
        return file.size();
    }

    public int read() {
        telling.clear();
        int answer = tables.load();
        tables.tellWrongSums(telling);
        signs.load();
        shaper.survey();
        return answer;
    }

    public int octet(int table, int i) throws ArrayIndexOutOfBoundsException {
        int value = tables.get(table).one(i);
        if (value == PAST) {
            throw new ArrayIndexOutOfBoundsException("no such byte of a table");
        }
        return value;
    }

    public long sum(int table) {
        return tables.has(table) ? tables.totalOf(table) : -1;
    }

    public int count(int what) {
        switch (what) {
            case 0:
                return tables.size();
            case 1:
                return signs.size();
            case 2:
                return signs.used();
            case 3:
                return shaper.points().size();
            case 4:
                return shaper.points().contours();
            default:
                return -1;
        }
    }

    public int map(int code) {
        long sign = code < 0 ? 0 : codes.find(code);
        return sign > 0 && sign < signs.size() ? (int) sign : 0;
    }

    public int run(int sign) {
        telling.clear();
        shaper.make(sign);
        pieces.trace(shaper.points());
        return signs.has(sign) ? pieces.size() : -1;
    }

    public int piece(int i, int what) throws IndexOutOfBoundsException {
        if (!pieces.has(i, what)) {
            throw new IndexOutOfBoundsException("no such number of a piece");
        }
        return pieces.get(i, what);
    }

    public int told(int i, int what) throws IndexOutOfBoundsException {
        if (i == -1) {
            return telling.size();
        }
        if (!telling.has(i, what)) {
            throw new IndexOutOfBoundsException("nothing such was told");
        }
        return telling.get(i, what);
    }

    public int width(int sign) {
        int k = tables.first(HHEA).two(34);
        if (!signs.has(sign) || k <= 0) {
            return 0;
        }
        int value = tables.first(HMTX).two(4L * Math.min(sign, k - 1));
        return value == PAST ? 0 : value;
    }

    public int kern(int a, int b) {
        Table table = tables.first(KERN);
        int rows = table.two(10);
        for (int k = 0; k < rows; k++) {
            int place = 18 + 6 * k;
            int value = table.two(place + 4);
            if (value == PAST) {
                return 0;
            }
            if (table.two(place) == a && table.two(place + 2) == b) {
                return signed(value);
            }
        }
        return 0;
    }

    public long scaled(int length, int dots) {
        if (dots < 0 || dots > DOTS_MOST) {
            return -1;
        }
        int unit = tables.first(HEAD).two(18);
        if (unit <= 0) {
            return 0;
        }
        return Math.floorDiv(2L * 64 * length * dots + unit, 2L * unit);
    }

    public int cut(int sign) {
        if (!signs.has(sign)) {
            return -1;
        }
        signs.use(sign);
        return signs.used();
    }

    public int write() {
        return writer.make();
    }

    public int at(int i) {
        return writer.one(i);
    }

    private static int signed(int two) {
        return two >= 32768 ? two - 65536 : two;
    }

    /** A row of bytes that grows up to the cells it was given. */
    private static final class Row {
        private final int[] cells;
        private int size;

        Row(int[] cells) {
            this.cells = cells;
        }

        int size() {
            return size;
        }

        void clear() {
            size = 0;
        }

        void push(int value) {
            if (size < cells.length) {
                cells[size] = value & 255;
                size++;
            }
        }

        void pushTwo(int value) {
            push(value >> 8);
            push(value);
        }

        void pushFour(int value) {
            pushTwo(value >> 16);
            pushTwo(value);
        }

        void setFour(int place, long value) {
            for (int i = 0; i < 4; i++) {
                int cell = place + i;
                if (cell >= 0 && cell < size) {
                    cells[cell] = (int) (value >> (24 - 8 * i)) & 255;
                }
            }
        }

        int one(long place, long end) {
            return place >= 0 && place < end && place < size ? cells[(int) place] : PAST;
        }

        int two(long place, long end) {
            if (place < 0 || place + 1 >= end || place + 1 >= size) {
                return PAST;
            }
            int cell = (int) place;
            return cells[cell] << 8 | cells[cell + 1];
        }

        long four(long place, long end) {
            if (place < 0 || place + 3 >= end || place + 3 >= size) {
                return PAST;
            }
            int cell = (int) place;
            long high = cells[cell] << 8 | cells[cell + 1];
            return high << 16 | cells[cell + 2] << 8 | cells[cell + 3];
        }
    }

    /** A stretch of a row of bytes; an empty one stands for a TABLE that is not there. */
    private static final class Table {
        private final Row row;
        private long tag;
        private long sum;
        private int place;
        private int length;

        Table(Row row) {
            this.row = row;
        }

        void set(long newTag, long newSum, int newPlace, int newLength) {
            tag = newTag;
            sum = newSum;
            place = newPlace;
            length = newLength;
        }

        long end() {
            return (long) place + length;
        }

        int one(long i) {
            return i < 0 ? PAST : row.one(place + i, end());
        }

        int two(long i) {
            return i < 0 ? PAST : row.two(place + i, end());
        }

        long four(long i) {
            return i < 0 ? PAST : row.four(place + i, end());
        }

        /** THE SUM; the head that counts is summed without its FOUR at 8. */
        long total(boolean countingHead) {
            long total = 0;
            for (int i = 0; i < length; i++) {
                boolean leftOut = countingHead && i >= HEAD_FILE_SUM && i < HEAD_FILE_SUM + 4;
                if (!leftOut) {
                    total += (long) one(i) << (24 - 8 * (i & 3));
                }
            }
            return total & LOW_32_BITS;
        }
    }

    /** The TABLES of the file, as they were read. */
    private static final class Tables {
        private final Row file;
        private final Table[] entries = new Table[TABLES_MOST];
        private final Table absent;
        private int size;

        Tables(Row file) {
            this.file = file;
            absent = new Table(file);
            for (int i = 0; i < TABLES_MOST; i++) {
                entries[i] = new Table(file);
            }
        }

        int size() {
            return size;
        }

        boolean has(int table) {
            return table >= 0 && table < size;
        }

        Table get(int table) {
            return has(table) ? entries[table] : absent;
        }

        /** Which TABLE of a TAG counts; below 0 without one. */
        int indexOf(long tag) {
            for (int i = 0; i < size; i++) {
                if (entries[i].tag == tag) {
                    return i;
                }
            }
            return -1;
        }

        Table first(long tag) {
            return get(indexOf(tag));
        }

        boolean isThere(long tag) {
            return indexOf(tag) >= 0;
        }

        long totalOf(int table) {
            return get(table).total(table == indexOf(HEAD));
        }

        int load() {
            size = 0;
            if (file.size() < FILE_HEADER) {
                return -1;
            }
            int most = Math.min(file.two(4, FILE_HEADER), TABLES_MOST);
            for (int i = 0; i < most; i++) {
                if (!loadEntry(i)) {
                    return -1 - i;
                }
            }
            size = most;
            return size;
        }

        private boolean loadEntry(int i) {
            int row = FILE_HEADER + ROW_OF_TABLE * i;
            long end = file.size();
            long place = file.four(row + 8, end);
            long length = file.four(row + 12, end);
            if (place == PAST || length == PAST || place + length > end) {
                return false;
            }
            entries[i].set(file.four(row, end), file.four(row + 4, end), (int) place, (int) length);
            return true;
        }

        void tellWrongSums(Telling telling) {
            for (int i = 0; i < size; i++) {
                if (totalOf(i) != entries[i].sum) {
                    telling.tell(TOLD_SUM, i);
                }
            }
        }
    }

    /** What was TOLD, in the order in which it was. */
    private static final class Telling {
        private final int[] kinds = new int[TOLD_MOST];
        private final int[] numbers = new int[TOLD_MOST];
        private int size;

        int size() {
            return size;
        }

        boolean isFull() {
            return size >= TOLD_MOST;
        }

        void clear() {
            size = 0;
        }

        void tell(int kind, int number) {
            if (!isFull()) {
                kinds[size] = kind;
                numbers[size] = number;
                size++;
            }
        }

        boolean has(int i, int what) {
            return i >= 0 && i < size && (what == 0 || what == 1);
        }

        int get(int i, int what) {
            if (!has(i, what)) {
                return 0;
            }
            return what == 0 ? kinds[i] : numbers[i];
        }
    }

    /** The SIGNS: how many there are, where their DATA are, and which of them are used. */
    private static final class Signs {
        private final Tables tables;
        private final Data data;
        private final boolean[] isUsed = new boolean[SIGNS_MOST];
        private final int[] inOrder = new int[SIGNS_MOST];
        private int used;
        private int size;
        private boolean cutShort;
        private boolean longPlaces;
        private Table loca;
        private Table glyf;

        Signs(Row file, Tables tables) {
            this.tables = tables;
            data = new Data(file);
            loca = tables.absent;
            glyf = tables.absent;
        }

        /** Takes what the TABLES tell; no SIGN is used any more. */
        void load() {
            int told = tables.first(MAXP).two(4);
            size = Math.max(0, Math.min(SIGNS_MOST, told));
            cutShort = told > SIGNS_MOST;
            longPlaces = tables.first(HEAD).two(50) == 1;
            loca = tables.first(LOCA);
            glyf = tables.first(GLYF);
            used = 0;
            for (int i = 0; i < SIGNS_MOST; i++) {
                isUsed[i] = false;
            }
        }

        int size() {
            return size;
        }

        boolean has(int sign) {
            return sign >= 0 && sign < size;
        }

        boolean areCutShort() {
            return cutShort;
        }

        boolean haveLongPlaces() {
            return longPlaces;
        }

        /** The i-th place in glyf that loca tells, or PAST. */
        long placeAt(int i) {
            if (longPlaces) {
                return loca.four(4L * i);
            }
            int half = loca.two(2L * i);
            return half == PAST ? PAST : 2L * half;
        }

        void open(int sign, Data into) {
            long from = placeAt(sign);
            long to = placeAt(sign + 1);
            if (from == PAST || to == PAST) {
                into.open(false, 0, 0);
            } else {
                into.open(from == to, glyf.place + from, Math.min(glyf.place + to, glyf.end()));
            }
        }

        /** How many bytes of DATA are written: none of a SIGN that is not used or BAD in its place. */
        int sizeToWrite(int sign) {
            if (!has(sign) || !isUsed[sign]) {
                return 0;
            }
            long from = placeAt(sign);
            long to = placeAt(sign + 1);
            boolean bad = from == PAST || to == PAST || from > to || to > glyf.length;
            return bad ? 0 : (int) (to - from);
        }

        int used() {
            return used;
        }

        /** No recursion: a chain of PARTS may be as long as there are SIGNS. */
        void use(int sign) {
            int done = used;
            mark(sign);
            for (int i = done; i < used && i < SIGNS_MOST; i++) {
                markPartsOf(inOrder[i]);
            }
        }

        private void mark(int sign) {
            if (has(sign) && !isUsed[sign] && used < SIGNS_MOST) {
                isUsed[sign] = true;
                inOrder[used] = sign;
                used++;
            }
        }

        private void markPartsOf(int sign) {
            open(sign, data);
            if (data.isEmpty() || !data.hasParts()) {
                return;
            }
            boolean more = true;
            for (int k = 0; k < FILE_MOST && more && data.nextPart(); k++) {
                mark(data.sign);
                more = data.hasMore();
            }
        }
    }

    /** The DATA of a SIGN, read one number behind the other, and the PART that was read last. */
    private static final class Data {
        private static final int HEADER = 10;
        private static final int WIDE = 1;
        private static final int MOVED = 2;
        private static final int ONE_SCALE = 8;
        private static final int MORE = 32;
        private static final int TWO_SCALES = 64;
        private static final int FOUR_SCALES = 128;
        private static final int UNIT = 16384;

        private final Row row;
        private boolean empty;
        private boolean past;
        private long place;
        private long end;
        private int contours;
        private int flags;
        private int sign;
        private int first;
        private int second;
        private int a;
        private int b;
        private int c;
        private int d;

        Data(Row row) {
            this.row = row;
        }

        /** Takes the number of contours, too, and goes on behind the header. */
        void open(boolean isEmpty, long from, long to) {
            empty = isEmpty;
            past = false;
            place = from;
            end = to;
            contours = signedTwo();
            skip(HEADER - 2);
        }

        boolean isEmpty() {
            return empty;
        }

        boolean hasParts() {
            return contours < 0;
        }

        /** Whether anything that was asked for since open() was PAST. */
        boolean isPast() {
            return past;
        }

        int one() {
            return seen(row.one(place, end), 1);
        }

        int two() {
            return seen(row.two(place, end), 2);
        }

        int signedTwo() {
            return signed(seen(row.two(place, end), 2));
        }

        private int seen(int value, int bytes) {
            place += bytes;
            past = past || value == PAST;
            return value == PAST ? 0 : value;
        }

        void skip(int bytes) {
            place += bytes;
            past = past || place > end;
        }

        /** Reads a PART: whether all of its bytes are there. */
        boolean nextPart() {
            flags = two();
            sign = two();
            first = nextNumber();
            second = nextNumber();
            nextScales();
            return !past;
        }

        private int nextNumber() {
            boolean wide = (flags & WIDE) != 0;
            int value = wide ? two() : one();
            int half = wide ? 32768 : 128;
            return isMoved() && value >= half ? value - 2 * half : value;
        }

        private void nextScales() {
            a = UNIT;
            b = 0;
            c = 0;
            d = UNIT;
            if ((flags & ONE_SCALE) != 0) {
                a = signedTwo();
                d = a;
            } else if ((flags & TWO_SCALES) != 0) {
                a = signedTwo();
                d = signedTwo();
            } else if ((flags & FOUR_SCALES) != 0) {
                a = signedTwo();
                b = signedTwo();
                c = signedTwo();
                d = signedTwo();
            }
        }

        boolean isMoved() {
            return (flags & MOVED) != 0;
        }

        boolean hasMore() {
            return (flags & MORE) != 0;
        }
    }

    /** The POINTS and contours that there are so far. */
    private static final class Points {
        private static final int ON = 1;
        private static final int X_BYTE = 2;
        private static final int Y_BYTE = 4;
        private static final int AGAIN = 8;
        private static final int X_SAME = 16;
        private static final int Y_SAME = 32;

        private final int[] x = new int[POINTS_MOST];
        private final int[] y = new int[POINTS_MOST];
        private final int[] flags = new int[POINTS_MOST];
        private final int[] lasts = new int[POINTS_MOST];
        private int size;
        private int contours;

        int size() {
            return size;
        }

        int contours() {
            return contours;
        }

        private boolean has(int i) {
            return i >= 0 && i < size;
        }

        int x(int i) {
            return has(i) ? x[i] : 0;
        }

        int y(int i) {
            return has(i) ? y[i] : 0;
        }

        boolean isOn(int i) {
            return has(i) && (flags[i] & ON) != 0;
        }

        int lastOf(int contour) {
            return contour >= 0 && contour < contours ? lasts[contour] : -1;
        }

        /** Drops all but the first ones. */
        void keep(int points, int ofContours) {
            size = Math.max(0, Math.min(size, points));
            contours = Math.max(0, Math.min(contours, ofContours));
        }

        /** Takes the POINTS of a simple SIGN: whether its DATA are as they have to be. */
        boolean take(Data data) {
            int from = size;
            if (!takeContours(data, from)) {
                return false;
            }
            data.skip(data.two());
            if (!takeFlags(data, from)) {
                return false;
            }
            takeAxis(data, x, from, X_BYTE, X_SAME);
            takeAxis(data, y, from, Y_BYTE, Y_SAME);
            return !data.isPast();
        }

        private boolean takeContours(Data data, int from) {
            for (int k = 0; k < data.contours; k++) {
                int last = from + data.two();
                boolean good = !data.isPast() && last >= size && last < POINTS_MOST;
                if (!good || contours >= POINTS_MOST) {
                    return false;
                }
                lasts[contours] = last;
                contours++;
                size = last + 1;
            }
            return true;
        }

        private boolean takeFlags(Data data, int from) {
            int again = 0;
            int flag = 0;
            for (int i = from; i < size; i++) {
                if (again > 0) {
                    again--;
                } else {
                    flag = data.one();
                    again = (flag & AGAIN) != 0 ? data.one() : 0;
                }
                flags[i] = flag;
            }
            return again == 0 && !data.isPast();
        }

        private void takeAxis(Data data, int[] axis, int from, int isByte, int isSame) {
            int value = 0;
            for (int i = from; i < size; i++) {
                boolean same = (flags[i] & isSame) != 0;
                if ((flags[i] & isByte) != 0) {
                    int step = data.one();
                    value += same ? step : -step;
                } else if (!same) {
                    value += data.signedTwo();
                }
                axis[i] = value;
            }
        }

        void scale(int from, Data part) {
            for (int i = Math.max(0, from); i < size; i++) {
                long oldX = x[i];
                long oldY = y[i];
                x[i] = wholes(part.a * oldX + part.c * oldY);
                y[i] = wholes(part.b * oldX + part.d * oldY);
            }
        }

        private static int wholes(long parts) {
            return (int) Math.floorDiv(parts + Data.UNIT / 2, (long) Data.UNIT);
        }

        void move(int from, int byX, int byY) {
            for (int i = Math.max(0, from); i < size; i++) {
                x[i] += byX;
                y[i] += byY;
            }
        }
    }

    /** Makes the POINTS of a SIGN, those of its PARTS too. A level is in how many others a SIGN lies. */
    private static final class Shaper {
        /** Yields above all numbers of POINTS: something may be TOLD alone, or nothing at all happens. */
        private static final int TELLS = 1000;
        private static final int NOTHING = 2000;

        private final Signs signs;
        private final Telling telling;
        private final Points points = new Points();
        private final Points tried = new Points();
        private final Data[] levels = new Data[DEEPEST + 1];
        private final int[] opened = new int[DEEPEST + 1];
        private final int[] openings = new int[DEEPEST + 1];
        private final int[] yields = new int[(DEEPEST + 1) * SIGNS_MOST];
        private final int[] barren = new int[(DEEPEST + 1) * SIGNS_MOST];
        private int lastOpening;

        Shaper(Row file, Signs signs, Telling telling) {
            this.signs = signs;
            this.telling = telling;
            for (int i = 0; i <= DEEPEST; i++) {
                levels[i] = new Data(file);
            }
        }

        Points points() {
            return points;
        }

        void make(int sign) {
            points.keep(0, 0);
            if (signs.has(sign)) {
                shape(0, sign);
            }
        }

        private void shape(int level, int sign) {
            if (level < 0 || level > DEEPEST) {
                return;
            }
            Data data = levels[level];
            signs.open(sign, data);
            if (data.isEmpty()) {
                return;
            }
            opened[level] = sign;
            lastOpening++;
            openings[level] = lastOpening;
            int oldPoints = points.size();
            int oldContours = points.contours();
            boolean good = data.hasParts() ? shapeParts(level, data) : points.take(data);
            if (!good) {
                points.keep(oldPoints, oldContours);
                telling.tell(TOLD_BAD, sign);
            }
        }

        private boolean shapeParts(int level, Data data) {
            int from = points.size();
            boolean more = true;
            for (int k = 0; k < FILE_MOST && more; k++) {
                if (!data.nextPart()) {
                    return false;
                }
                shapePart(level, data, from);
                more = data.hasMore();
            }
            return true;
        }

        private void shapePart(int level, Data part, int from) {
            if (level >= DEEPEST || !signs.has(part.sign) || isOpened(level, part.sign)) {
                telling.tell(TOLD_LEFT_OUT, part.sign);
                return;
            }
            int start = points.size();
            boolean silent = telling.isFull();
            if (matters(level + 1, part.sign)) {
                shape(level + 1, part.sign);
                keepIfBarren(level + 1, part.sign, silent && points.size() == start);
            }
            points.scale(start, part);
            if (part.isMoved()) {
                points.move(start, part.first, part.second);
            } else {
                join(part, from, start);
            }
        }

        private boolean isOpened(int level, int sign) {
            for (int i = 0; i <= level && i <= DEEPEST; i++) {
                if (opened[i] == sign) {
                    return true;
                }
            }
            return false;
        }

        /** Brings the PART's POINT to the SIGN's; the SIGN's begin at from, the PART's at start. */
        private void join(Data part, int from, int start) {
            int fixed = from + part.first;
            int moved = start + part.second;
            if (fixed < start && moved < points.size()) {
                int byX = points.x(fixed) - points.x(moved);
                int byY = points.y(fixed) - points.y(moved);
                points.move(start, byX, byY);
            } else {
                telling.tell(TOLD_POINT, part.sign);
            }
        }

        /**
         * Whether a PART at this level can still change anything. DATA that overlap hold some hundred
         * PARTS in each of five levels, far more than can be gone through one by one; those that bring no
         * POINTS and of which nothing is TOLD are passed over.
         */
        private boolean matters(int level, int sign) {
            int cell = cellOf(level, sign);
            if (cell < 0) {
                return false;
            }
            if (!telling.isFull()) {
                return yields[cell] < NOTHING;
            }
            return yields[cell] <= POINTS_MOST - points.size() && barren[cell] != openings[level - 1];
        }

        /** What brought nothing when no more could be TOLD brings nothing again in the same opening. */
        private void keepIfBarren(int level, int sign, boolean isBarren) {
            int cell = cellOf(level, sign);
            if (isBarren && cell >= 0) {
                barren[cell] = openings[level - 1];
            }
        }

        /** Where a PART of a level stands in yields and barren; below 0 if it stands nowhere. */
        private int cellOf(int level, int sign) {
            boolean known = level > 0 && level <= DEEPEST && signs.has(sign);
            return known ? level * SIGNS_MOST + sign : -1;
        }

        private int yieldAt(int level, int sign) {
            int cell = cellOf(level, sign);
            return cell < 0 ? TELLS : yields[cell];
        }

        /** Finds the yields: the least number of POINTS above 0 that one simple SIGN in a SIGN has. */
        void survey() {
            for (int level = DEEPEST; level > 0; level--) {
                for (int sign = 0; sign < signs.size(); sign++) {
                    int cell = cellOf(level, sign);
                    if (cell >= 0) {
                        yields[cell] = yieldOf(level, sign);
                    }
                }
            }
        }

        /** A simple SIGN yields the same at all levels, so that it is tried once. */
        private int yieldOf(int level, int sign) {
            Data data = levels[level];
            signs.open(sign, data);
            if (data.isEmpty()) {
                return NOTHING;
            }
            if (data.hasParts()) {
                return yieldOfParts(level, data);
            }
            return level < DEEPEST ? yieldAt(level + 1, sign) : yieldOfSimple(data);
        }

        private int yieldOfSimple(Data data) {
            tried.keep(0, 0);
            if (!tried.take(data)) {
                return TELLS;
            }
            return tried.size() == 0 ? NOTHING : tried.size();
        }

        private int yieldOfParts(int level, Data data) {
            int least = NOTHING;
            boolean more = true;
            for (int k = 0; k < FILE_MOST && more; k++) {
                if (!data.nextPart()) {
                    return TELLS;
                }
                int otherwise = data.isMoved() ? NOTHING : TELLS;
                least = Math.min(least, Math.min(otherwise, yieldAt(level + 1, data.sign)));
                more = data.hasMore();
            }
            return least;
        }
    }

    /** The PIECES of contours, in halves of units. */
    private static final class Pieces {
        private final int[] cells = new int[ROW_OF_PIECE * POINTS_MOST];
        private int size;
        private int penX;
        private int penY;

        int size() {
            return size;
        }

        boolean has(int i, int what) {
            return i >= 0 && i < size && what >= 0 && what < ROW_OF_PIECE;
        }

        int get(int i, int what) {
            return has(i, what) ? cells[ROW_OF_PIECE * i + what] : 0;
        }

        void trace(Points points) {
            size = 0;
            int first = 0;
            for (int k = 0; k < points.contours(); k++) {
                int last = points.lastOf(k);
                traceContour(points, k, first, last);
                first = last + 1;
            }
        }

        private void traceContour(Points points, int contour, int first, int last) {
            int length = last - first + 1;
            if (length < 2) {
                return;
            }
            penX = points.x(last) + points.x(first);
            penY = points.y(last) + points.y(first);
            int start = firstOn(points, first, last) - first;
            for (int k = 0; k < length; k++) {
                int here = first + (start + k) % length;
                tracePoint(points, contour, here, here == last ? first : here + 1);
            }
        }

        /** The first POINT that is ON, or the first one if none is. */
        private static int firstOn(Points points, int first, int last) {
            for (int i = first; i <= last; i++) {
                if (points.isOn(i)) {
                    return i;
                }
            }
            return first;
        }

        private void tracePoint(Points points, int contour, int here, int next) {
            int x = points.x(here);
            int y = points.y(here);
            int nextX = points.x(next);
            int nextY = points.y(next);
            boolean toOn = points.isOn(next);
            if (!points.isOn(here)) {
                put(contour, 1, 2 * x, 2 * y, nextX + (toOn ? nextX : x), nextY + (toOn ? nextY : y));
                return;
            }
            penX = 2 * x;
            penY = 2 * y;
            if (toOn) {
                put(contour, 0, 0, 0, 2 * nextX, 2 * nextY);
            }
        }

        private void put(int contour, int curve, int byX, int byY, int endX, int endY) {
            int cell = ROW_OF_PIECE * size;
            if (cell + ROW_OF_PIECE > cells.length) {
                return;
            }
            cells[cell] = contour;
            cells[cell + 1] = curve;
            cells[cell + 2] = penX;
            cells[cell + 3] = penY;
            cells[cell + 4] = byX;
            cells[cell + 5] = byY;
            cells[cell + 6] = endX;
            cells[cell + 7] = endY;
            size++;
            penX = endX;
            penY = endY;
        }
    }

    /** Finds codes in the MAP that counts. What it finds may be no SIGN, or PAST. */
    private static final class Codes {
        private final Tables tables;
        private Table cmap;
        private long start;

        Codes(Tables tables) {
            this.tables = tables;
            cmap = tables.absent;
        }

        long find(int code) {
            cmap = tables.first(CMAP);
            int rows = cmap.two(2);
            for (int k = 0; k < rows; k++) {
                start = cmap.four(4 + 8L * k + 4);
                int form = start == PAST ? PAST : two(0);
                if (form == PAST) {
                    return 0;
                }
                if (form == 0 || form == 4 || form == 6 || form == 12) {
                    return findBy(form, code);
                }
            }
            return 0;
        }

        private int two(long place) {
            return cmap.two(start + place);
        }

        private long four(long place) {
            return cmap.four(start + place);
        }

        private long findBy(int form, int code) {
            switch (form) {
                case 0:
                    return code < 256 ? cmap.one(start + 6 + code) : 0;
                case 4:
                    return findInSegments(code);
                case 6:
                    return findInRow(code);
                default:
                    return findInGroups(code);
            }
        }

        private int findInSegments(int code) {
            int s = two(6);
            for (int k = 0; k < s / 2; k++) {
                int last = two(14 + 2 * k);
                if (last == PAST) {
                    return 0;
                }
                if (last >= code) {
                    return findInSegment(code, s, 2 * k);
                }
            }
            return 0;
        }

        private int findInSegment(int code, int s, int twiceK) {
            int first = two(16 + s + twiceK);
            int d = two(16 + 2 * s + twiceK);
            int place = 16 + 3 * s + twiceK;
            int o = two(place);
            if (first == PAST || first > code || d == PAST || o == PAST) {
                return 0;
            }
            if (o == 0) {
                return (code + d) & 65535;
            }
            int value = two(place + o + 2 * (code - first));
            return value == PAST || value == 0 ? 0 : (value + d) & 65535;
        }

        private int findInRow(int code) {
            int first = two(6);
            int most = two(8);
            boolean there = first != PAST && code >= first && code - first < most;
            return there ? two(10 + 2L * (code - first)) : 0;
        }

        private long findInGroups(int code) {
            long groups = four(12);
            for (long k = 0; k < groups; k++) {
                long place = 16 + 12 * k;
                long first = four(place);
                long last = four(place + 4);
                long sign = four(place + 8);
                if (first == PAST || last == PAST || sign == PAST) {
                    return 0;
                }
                if (code >= first && code <= last) {
                    return sign + (code - first);
                }
            }
            return 0;
        }
    }

    /** Writes the file anew, with the DATA of the used SIGNS alone. */
    private static final class Writer {
        private final Row file;
        private final Tables tables;
        private final Signs signs;
        private final Row out = new Row(new int[WRITTEN_MOST]);
        private final Table stretch;
        private final int[] order = new int[TABLES_MOST];
        private final int[] sizes = new int[SIGNS_MOST];
        private final int[] places = new int[SIGNS_MOST + 1];
        private int headPlace;

        Writer(Row file, Tables tables, Signs signs) {
            this.file = file;
            this.tables = tables;
            this.signs = signs;
            stretch = new Table(out);
        }

        int one(int i) {
            return out.one(i, out.size());
        }

        /** What was written before stays if nothing can be written. */
        int make() {
            if (!isPossible()) {
                return -1;
            }
            findPlaces();
            if (newSize() > WRITTEN_MOST) {
                return -1;
            }
            sortByTags();
            out.clear();
            putHeader();
            for (int i = 0; i < tables.size(); i++) {
                putTable(i, order[i]);
            }
            putFileSum();
            return out.size();
        }

        private boolean isPossible() {
            return tables.isThere(HEAD) && tables.isThere(MAXP)
                    && tables.isThere(LOCA) && tables.isThere(GLYF)
                    && tables.first(HEAD).length >= HEAD_LEAST && !signs.areCutShort();
        }

        /** Where the DATA of each SIGN begin in the new glyf, and where those of the last one end. */
        private void findPlaces() {
            for (int i = 0; i < signs.size(); i++) {
                sizes[i] = signs.sizeToWrite(i);
                places[i + 1] = places[i] + sizes[i] + sizes[i] % 2;
            }
        }

        private int newSize() {
            int size = FILE_HEADER + ROW_OF_TABLE * tables.size();
            for (int i = 0; i < tables.size(); i++) {
                size += padded(newLength(i));
            }
            return size;
        }

        private static int padded(int length) {
            return (length + 3) / 4 * 4;
        }

        private int newLength(int table) {
            if (table == tables.indexOf(GLYF)) {
                return places[signs.size()];
            }
            if (table == tables.indexOf(LOCA)) {
                return (signs.size() + 1) * (signs.haveLongPlaces() ? 4 : 2);
            }
            return tables.get(table).length;
        }

        private void sortByTags() {
            for (int i = 0; i < tables.size(); i++) {
                int k = i;
                while (k > 0 && tables.get(order[k - 1]).tag > tables.get(i).tag) {
                    order[k] = order[k - 1];
                    k--;
                }
                order[k] = i;
            }
        }

        private void putHeader() {
            for (int i = 0; i < FILE_HEADER; i++) {
                out.push(file.one(i, FILE_HEADER));
            }
            for (int i = 0; i < ROW_OF_TABLE * tables.size(); i++) {
                out.push(0);
            }
        }

        private void putTable(int i, int table) {
            int place = out.size();
            putBody(table);
            int length = out.size() - place;
            long tag = tables.get(table).tag;
            stretch.set(tag, 0, place, length);
            int row = FILE_HEADER + ROW_OF_TABLE * i;
            out.setFour(row, tag);
            out.setFour(row + 4, stretch.total(false));
            out.setFour(row + 8, place);
            out.setFour(row + 12, length);
            int zeros = padded(length) - length;
            for (int k = 0; k < zeros; k++) {
                out.push(0);
            }
        }

        private void putBody(int table) {
            if (table == tables.indexOf(GLYF)) {
                putGlyf(tables.get(table));
            } else if (table == tables.indexOf(LOCA)) {
                putLoca();
            } else if (table == tables.indexOf(HEAD)) {
                putHead(tables.get(table));
            } else {
                putBytes(tables.get(table), 0, tables.get(table).length);
            }
        }

        private void putBytes(Table table, long from, int length) {
            for (int i = 0; i < length; i++) {
                out.push(table.one(from + i));
            }
        }

        private void putHead(Table head) {
            headPlace = out.size();
            putBytes(head, 0, head.length);
            out.setFour(headPlace + HEAD_FILE_SUM, 0);
        }

        private void putGlyf(Table glyf) {
            for (int i = 0; i < signs.size(); i++) {
                putBytes(glyf, signs.placeAt(i), sizes[i]);
                if (sizes[i] % 2 != 0) {
                    out.push(0);
                }
            }
        }

        private void putLoca() {
            for (int i = 0; i <= signs.size(); i++) {
                if (signs.haveLongPlaces()) {
                    out.pushFour(places[i]);
                } else {
                    out.pushTwo(places[i] / 2);
                }
            }
        }

        private void putFileSum() {
            stretch.set(0, 0, 0, out.size());
            out.setFour(headPlace + HEAD_FILE_SUM, WHOLE_FILE_SUM - stretch.total(false));
        }
    }
}
