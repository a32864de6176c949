import java.util.Arrays;

/**
 * A sheet of cells with formulas: after each edit just what hangs on it is worked out anew.
 *
 * <p>Every value is one long (see Val), and all rows are made once and used again, because all calls
 * of a run share one bounded room.
 */
public final class GridReckoner {
    private static final int ROWS = 80;
    private static final int COLUMNS = 26;
    private static final int CELLS = ROWS * COLUMNS;
    private static final int TAPE_MOST = 2000;
    private static final int FEED_BYTES = 20;
    private static final int SHOWN_MOST = 250;
    private static final int TEXT_MOST = 60;
    private static final int WORD_MOST = 12;
    private static final int NAMES_MOST = 20;
    private static final int OPEN_MOST = 12;
    private static final int WORDS_MOST = 5;
    private static final int CHOICES_MOST = 8;
    private static final int ARRAY_MOST = 2080;
    private static final int DEPTH_MOST = 10;
    private static final int MANY = 1000000;

    /** Those of names first; one more than there are cells: copy makes a formula before the old one goes. */
    private static final int SLOTS = NAMES_MOST + CELLS + 1;

    private static final long UNIT = 10000;
    private static final long GREATEST = 90000000000L * UNIT;

    private static final int NOTHING = 0;
    private static final int NUMBER = 1;
    private static final int TEXT = 2;
    private static final int TRUTH = 3;
    private static final int ERROR = 4;
    private static final int ARRAY = 5;
    private static final int FUNCTION = 6;
    /** Lies on the stack below what a single condition has chosen. */
    private static final long MARK = 7;

    private static final long EMPTY = NOTHING;
    private static final long ZERO = NUMBER;
    private static final long NO = TRUTH;
    private static final long YES = 1 << 3 | TRUTH;
    private static final long DIV_ERROR = 1 << 3 | ERROR;
    private static final long VALUE_ERROR = 2 << 3 | ERROR;
    private static final long REF_ERROR = 3 << 3 | ERROR;
    private static final long NAME_ERROR = 4 << 3 | ERROR;
    private static final long NUM_ERROR = 5 << 3 | ERROR;
    private static final long NA_ERROR = 6 << 3 | ERROR;
    private static final long CIRC_ERROR = 7 << 3 | ERROR;
    private static final long CALC_ERROR = 8 << 3 | ERROR;
    private static final int ERRORS = 8;

    private static final int NUMBERS = 0;
    private static final int ORDER = 1;
    private static final int TEXTS = 2;
    private static final int CHOICE = 3;
    private static final int JOINED = 4;
    private static final int SEARCH = 5;
    private static final int FOLD = 6;
    private static final int TABLE = 7;
    private static final int CALLING = 8;
    private static final int FORM = 9;

    private static final int CALLS = 0;
    private static final int GIVEN = 1;
    private static final int SPELLED = 2;
    private static final int ELEMENTS = 3;
    private static final int LIMITS = 4;

    private static final int PUSH = 0;
    private static final int PUSH_CELL = 1;
    private static final int PUSH_RANGE = 2;
    private static final int PUSH_BRACES = 3;
    private static final int PUSH_WORD = 4;
    private static final int APPLY = 5;
    private static final int CALL = 6;
    private static final int IF_TEST = 7;
    private static final int IF_ELSE = 8;
    private static final int IF_END = 9;
    private static final int ERROR_TEST = 10;
    private static final int ERROR_END = 11;
    private static final int CHOOSE = 12;
    private static final int JUMP = 13;
    private static final int BIND = 14;
    private static final int UNBIND = 15;
    private static final int LAMBDA = 16;
    private static final int DATA = 17;

    private final byte[] tape = new byte[TAPE_MOST];
    private final byte[] result = new byte[TAPE_MOST];
    private int tapeLength;
    private int resultLength;
    private int worked;
    private final Store store;
    private final Sheet sheet;
    private final Reader reader;
    private final Mover mover;
    private final Hangs hangs;
    private final Machine machine;

    public GridReckoner() {
        store = new Store();
        sheet = new Sheet(store);
        reader = new Reader(store, sheet);
        mover = new Mover();
        hangs = new Hangs(sheet);
        machine = new Machine(store, sheet, reader);
    }

    public int feed(int a, int b, int c, int d, int e) throws IndexOutOfBoundsException {
        if (tapeLength + FEED_BYTES > TAPE_MOST) {
            throw new IndexOutOfBoundsException();
        }
        addInt(a);
        addInt(b);
        addInt(c);
        addInt(d);
        addInt(e);
        return tapeLength;
    }

    public int end(int n) throws IllegalArgumentException {
        if (n < 0 || n > tapeLength) {
            throw new IllegalArgumentException();
        }
        tapeLength = n;
        return n;
    }

    public int set(int r, int c)
            throws IllegalArgumentException, UnsupportedOperationException, IllegalStateException,
            IndexOutOfBoundsException {
        needSheet(r, c, 1, 1);
        int length = takeTape();
        if (length > 0 && tape[0] == '=') {
            reader.read(tape, 0, length, 0);
            putFormula(r, c, 1, 1);
            return reckon();
        }
        long constant = reader.constant(tape, length);
        needWhole(r, c, 1, 1);
        int quote = length > 0 && tape[0] == '\'' ? 1 : 0;
        boolean text = constant == EMPTY && length > 0;
        if (text && length - quote > TEXT_MOST) {
            throw new IndexOutOfBoundsException();
        }
        int cell = r * COLUMNS + c;
        sheet.wipe(cell);
        if (text) {
            sheet.putConstant(cell, store.keepBytes(cell, tape, quote, length - quote));
        } else if (length > 0) {
            sheet.putConstant(cell, constant);
        }
        hangs.touch(r, c, 1, 1);
        return reckon();
    }

    public int area(int r, int c, int h, int w)
            throws IllegalArgumentException, UnsupportedOperationException, IllegalStateException,
            IndexOutOfBoundsException {
        needSheet(r, c, h, w);
        int length = takeTape();
        reader.read(tape, 0, length, 0);
        putFormula(r, c, h, w);
        return reckon();
    }

    public int clear(int r, int c, int h, int w) throws IllegalArgumentException, IllegalStateException {
        needSheet(r, c, h, w);
        needWhole(r, c, h, w);
        sheet.wipeAll(r, c, h, w);
        hangs.touch(r, c, h, w);
        return reckon();
    }

    public int copy(int r, int c, int h, int w, int tr, int tc)
            throws IllegalArgumentException, IllegalStateException, IndexOutOfBoundsException {
        needSheet(r, c, h, w);
        needSheet(tr, tc, h, w);
        needWhole(r, c, h, w);
        needWhole(tr, tc, h, w);
        mover.aimCopy(tr - r, tc - c);
        needRoomIn(r, c, h, w);
        copyCells(r * COLUMNS + c, h, w, (tr - r) * COLUMNS + tc - c);
        learnIn(tr, tc, h, w);
        hangs.touch(tr, tc, h, w);
        return reckon();
    }

    public int insert(boolean columns, int k, int n)
            throws IllegalArgumentException, IllegalStateException, IndexOutOfBoundsException {
        needLines(columns, k, n);
        if (sheet.splits(columns, k)) {
            throw new IllegalStateException();
        }
        int lines = columns ? COLUMNS : ROWS;
        if (sheet.anyFilled(columns, lines - n, n)) {
            throw new IndexOutOfBoundsException();
        }
        mover.aimLines(columns, k, n, false);
        needRoom(columns, lines, 0);
        sheet.openLines(columns, k, n);
        moveAll();
        learnAll();
        hangs.touchAll();
        return reckon();
    }

    public int remove(boolean columns, int k, int n)
            throws IllegalArgumentException, IllegalStateException, IndexOutOfBoundsException {
        needLines(columns, k, n);
        if (columns) {
            needWhole(0, k, ROWS, n);
        } else {
            needWhole(k, 0, n, COLUMNS);
        }
        mover.aimLines(columns, k, n, true);
        needRoom(columns, k, n);
        sheet.closeLines(columns, k, n);
        moveAll();
        learnAll();
        hangs.touchAll();
        return reckon();
    }

    public int name() throws UnsupportedOperationException, IndexOutOfBoundsException {
        int length = takeTape();
        int wordEnd = reader.readNameWord(tape, length);
        reader.read(tape, wordEnd, length, 0);
        long key = Lexer.key(tape, 0, wordEnd);
        int k = sheet.nameOf(key);
        boolean fresh = k < 0;
        if (reader.shownLength > SHOWN_MOST || fresh && sheet.nameCount >= NAMES_MOST) {
            throw new IndexOutOfBoundsException();
        }
        if (fresh) {
            k = sheet.addName(key);
        }
        sheet.write(k, reader.shown, reader.shownLength);
        if (fresh) {
            learnAll();
        } else {
            reader.read(sheet.formula[k], 0, sheet.length[k], k + 1);
            sheet.rest(k, reader.need, reader.named);
        }
        hangs.touchName(k);
        reckon();
        return sheet.nameCount;
    }

    public int kind(int r, int c) throws IllegalArgumentException {
        needSheet(r, c, 1, 1);
        return Val.tag(sheet.values[r * COLUMNS + c]);
    }

    public long value(int r, int c) throws IllegalArgumentException {
        needSheet(r, c, 1, 1);
        long v = sheet.values[r * COLUMNS + c];
        return Val.tag(v) == TEXT ? Val.textLength(v) : Val.load(v);
    }

    public int show(int r, int c, boolean content) throws IllegalArgumentException {
        needSheet(r, c, 1, 1);
        int cell = r * COLUMNS + c;
        int slot = sheet.holder[cell];
        if (!content) {
            resultLength = store.spell(sheet.values[cell], result, 0);
        } else if (slot >= 0) {
            resultLength = sheet.length[slot];
            System.arraycopy(sheet.formula[slot], 0, result, 0, resultLength);
        } else {
            showConstant(sheet.values[cell]);
        }
        return resultLength;
    }

    public long word(int i) throws IndexOutOfBoundsException {
        if (i < 0 || i >= resultLength) {
            throw new IndexOutOfBoundsException();
        }
        long eight = 0;
        for (int k = i; k < i + 8; k++) {
            eight = eight << 8 | (k < resultLength ? result[k] & 255 : 0);
        }
        return eight;
    }

    public int count(int what) throws IllegalArgumentException {
        switch (what) {
            case 0:
                return tapeLength;
            case 1:
                return resultLength;
            case 2:
                return sheet.filledCount;
            case 3:
                return reader.place;
            case 4:
                return worked;
            default:
                throw new IllegalArgumentException();
        }
    }

    private void addInt(int four) {
        for (int shift = 24; shift >= 0; shift -= 8) {
            tape[tapeLength] = (byte) (four >> shift);
            tapeLength++;
        }
    }

    /** Empties the tape at once, so that it is empty too if what follows throws. */
    private int takeTape() {
        int length = tapeLength;
        tapeLength = 0;
        reader.place = -1;
        return length;
    }

    private static void needSheet(int r, int c, int h, int w) {
        if (r < 0 || r >= ROWS || c < 0 || c >= COLUMNS || h < 1 || h > ROWS - r || w < 1 || w > COLUMNS - c) {
            throw new IllegalArgumentException();
        }
    }

    private static void needLines(boolean columns, int k, int n) {
        int lines = columns ? COLUMNS : ROWS;
        if (k < 0 || k >= lines || n < 1 || n > lines - k) {
            throw new IllegalArgumentException();
        }
    }

    private void needWhole(int r, int c, int h, int w) {
        if (sheet.cuts(r, c, h, w)) {
            throw new IllegalStateException();
        }
    }

    private void needRoomIn(int r, int c, int h, int w) {
        for (int row = r; row < r + h; row++) {
            for (int cell = row * COLUMNS + c; cell < row * COLUMNS + c + w; cell++) {
                int slot = sheet.holder[cell];
                boolean first = slot >= 0 && sheet.corner[slot] == cell;
                if (first && mover.move(sheet.formula[slot], sheet.length[slot]) > SHOWN_MOST) {
                    throw new IndexOutOfBoundsException();
                }
            }
        }
    }

    /** All formulas but those in the n lines from k on, which are about to go. */
    private void needRoom(boolean columns, int k, int n) {
        for (int slot = 0; slot < sheet.slotEnd; slot++) {
            boolean stays = sheet.lives(slot) && !sheet.isIn(slot, columns, k, n);
            if (stays && mover.move(sheet.formula[slot], sheet.length[slot]) > SHOWN_MOST) {
                throw new IndexOutOfBoundsException();
            }
        }
    }

    private void putFormula(int r, int c, int h, int w) {
        needWhole(r, c, h, w);
        if (reader.shownLength > SHOWN_MOST) {
            throw new IndexOutOfBoundsException();
        }
        sheet.wipeAll(r, c, h, w);
        int slot = sheet.takeSlot();
        sheet.write(slot, reader.shown, reader.shownLength);
        sheet.rest(slot, reader.need, reader.named);
        sheet.shape(slot, r * COLUMNS + c, h, w);
        sheet.occupy(slot);
        hangs.touch(r, c, h, w);
    }

    /** Goes in the order in which no cell is written before it has been read. */
    private void copyCells(int corner, int h, int w, int shift) {
        sheet.forgetTwins();
        int all = h * w;
        for (int k = 0; k < all; k++) {
            int i = shift > 0 ? all - 1 - k : k;
            int from = corner + i / w * COLUMNS + i % w;
            sheet.copyCell(from, from + shift, mover);
        }
    }

    private void moveAll() {
        for (int slot = 0; slot < sheet.slotEnd; slot++) {
            if (sheet.lives(slot)) {
                int length = mover.move(sheet.formula[slot], sheet.length[slot]);
                sheet.write(slot, mover.moved, length);
            }
        }
    }

    private void learnIn(int r, int c, int h, int w) {
        for (int row = r; row < r + h; row++) {
            for (int cell = row * COLUMNS + c; cell < row * COLUMNS + c + w; cell++) {
                int slot = sheet.holder[cell];
                if (slot >= 0 && sheet.corner[slot] == cell) {
                    reader.read(sheet.formula[slot], 0, sheet.length[slot], 0);
                    sheet.rest(slot, reader.need, reader.named);
                }
            }
        }
    }

    /** Notes what formulas rest on; the steps of names stay where the machine finds them. */
    private void learnAll() {
        for (int slot = 0; slot < sheet.slotEnd; slot++) {
            if (sheet.lives(slot)) {
                int zone = slot < NAMES_MOST ? slot + 1 : 0;
                reader.read(sheet.formula[slot], 0, sheet.length[slot], zone);
                sheet.rest(slot, reader.need, reader.named);
            }
        }
    }

    private int reckon() {
        hangs.arrange();
        for (int k = 0; k < hangs.ordered; k++) {
            int slot = hangs.order[k];
            long v = CIRC_ERROR;
            if (!hangs.circular[slot]) {
                reader.read(sheet.formula[slot], 0, sheet.length[slot], 0);
                machine.begin();
                v = machine.run(0, reader.ends[0], -1);
                v = store.stopped ? CALC_ERROR : v;
            }
            sheet.fill(slot, v);
        }
        worked = hangs.ordered;
        return sheet.filledCount;
    }

    private void showConstant(long v) {
        resultLength = 0;
        if (Val.tag(v) == TEXT && Lexer.needsQuote(store.bytes, Val.textFrom(v), Val.textLength(v))) {
            result[0] = '\'';
            resultLength = 1;
        }
        resultLength = store.spell(v, result, resultLength);
    }

    /** A value in one long, its tag in the lowest three bits, so that working out makes no objects. */
    private static final class Val {
        private static int tag(long v) {
            return (int) (v & 7);
        }

        private static long load(long v) {
            return v >> 3;
        }

        private static boolean isError(long v) {
            return (v & 7) == ERROR;
        }

        private static boolean isArray(long v) {
            return (v & 7) == ARRAY;
        }

        private static long number(long n) {
            return n > GREATEST || n < -GREATEST ? NUM_ERROR : n << 3 | NUMBER;
        }

        private static long truth(boolean yes) {
            return yes ? YES : NO;
        }

        private static long text(int from, int length) {
            return ((long) from << 6 | length) << 3 | TEXT;
        }

        private static int textFrom(long v) {
            return (int) (v >> 9);
        }

        private static int textLength(long v) {
            return (int) (v >> 3 & 63);
        }

        private static long array(int from, long rows, long columns) {
            return ((long) from << 24 | rows << 12 | columns) << 3 | ARRAY;
        }

        private static int first(long v) {
            return (int) (v >> 27);
        }

        private static int rows(long v) {
            return (v & 7) == ARRAY ? (int) (v >> 15 & 4095) : 1;
        }

        private static int columns(long v) {
            return (v & 7) == ARRAY ? (int) (v >> 3 & 4095) : 1;
        }

        /** The scope may be -1, none. */
        private static long function(int step, int scope) {
            return ((long) (scope + 1) << 16 | step) << 3 | FUNCTION;
        }

        private static int step(long v) {
            return (int) (v >> 3 & 65535);
        }

        private static int scope(long v) {
            return (int) (v >> 19) - 1;
        }

        /** A function is no value of its own where one is asked for. */
        private static long lone(long v) {
            return (v & 7) == FUNCTION ? CALC_ERROR : v;
        }

        private static long toNumber(long v) {
            switch ((int) (v & 7)) {
                case NUMBER:
                case ERROR:
                    return v;
                case NOTHING:
                    return ZERO;
                case TRUTH:
                    return (v >> 3) * UNIT << 3 | NUMBER;
                default:
                    return VALUE_ERROR;
            }
        }

        private static long toTruth(long v) {
            switch ((int) (v & 7)) {
                case TRUTH:
                case ERROR:
                    return v;
                case NOTHING:
                    return NO;
                case NUMBER:
                    return v == ZERO ? NO : YES;
                default:
                    return VALUE_ERROR;
            }
        }

        /** A NUMBER cut to whole. */
        private static long cut(long v) {
            return (v >> 3) / UNIT;
        }

        private static String sign(int which) {
            switch (which) {
                case 1:
                    return "#DIV/0!";
                case 2:
                    return "#VALUE!";
                case 3:
                    return "#REF!";
                case 4:
                    return "#NAME?";
                case 5:
                    return "#NUM!";
                case 6:
                    return "#N/A";
                case 7:
                    return "#CIRC!";
                default:
                    return "#CALC!";
            }
        }

        private static int spellLetters(String letters, byte[] to, int at) {
            for (int k = 0; k < letters.length(); k++) {
                to[at + k] = (byte) letters.charAt(k);
            }
            return at + letters.length();
        }

        private static int spellNumber(long n, byte[] to, int at) {
            int p = at;
            if (n < 0) {
                to[p] = '-';
                p++;
            }
            long size = n < 0 ? -n : n;
            long place = UNIT;
            while (place <= size / 10) {
                place *= 10;
            }
            long rest = size;
            for (; place > 0 && (rest > 0 || place >= UNIT); place /= 10) {
                if (place == UNIT / 10) {
                    to[p] = '.';
                    p++;
                }
                to[p] = (byte) ('0' + rest / place);
                p++;
                rest %= place;
            }
            return p;
        }
    }

    /** The texts and arrays that values point into, and what a formula has used up of its limits. */
    private static final class Store {
        private static final int SCRATCH = CELLS * TEXT_MOST;
        private static final int LITERALS = SCRATCH + 128;
        private static final int MADE = LITERALS + TAPE_MOST + NAMES_MOST * SHOWN_MOST;
        private static final int[] LIMIT = {400, 20000, 100000, 300000};

        private byte[] bytes = new byte[MADE + 1024];
        private long[] items = new long[4096];
        private final int[] used = new int[LIMITS];
        private int made;
        private int top;
        private int depth;
        private int peak;
        private boolean stopped;

        private void restart() {
            made = MADE;
            top = 0;
            depth = 0;
            peak = 0;
            stopped = false;
            Arrays.fill(used, 0);
        }

        private void use(int what, int n) {
            used[what] += n;
            if (used[what] > LIMIT[what]) {
                stopped = true;
            }
        }

        /** Tells that so many calls and names are within one another. */
        private void reach(int deep) {
            peak = Math.max(peak, deep);
            if (deep > DEPTH_MOST) {
                stopped = true;
            }
        }

        /** An array yet to be filled, or #CALC! if a limit forbids it. */
        private long make(long rows, long columns) {
            if (rows > ARRAY_MOST || columns > ARRAY_MOST || rows * columns > ARRAY_MOST) {
                stopped = true;
                return CALC_ERROR;
            }
            int n = (int) (rows * columns);
            use(ELEMENTS, n);
            if (stopped) {
                return CALC_ERROR;
            }
            if (top + n > items.length) {
                int more = Math.max(items.length * 2, top + n);
                items = Arrays.copyOf(items, Math.min(more, LIMIT[ELEMENTS]));
            }
            long v = Val.array(top, rows, columns);
            top += n;
            return v;
        }

        /** What an operand has in a row and column of the result. */
        private long at(long v, int row, int column) {
            if ((v & 7) != ARRAY) {
                return v;
            }
            int rows = Val.rows(v);
            int columns = Val.columns(v);
            int i = rows == 1 ? 0 : row;
            int j = columns == 1 ? 0 : column;
            return i < rows && j < columns ? items[Val.first(v) + i * columns + j] : NA_ERROR;
        }

        private long item(long v, int k) {
            return Val.isArray(v) ? items[Val.first(v) + k] : v;
        }

        /** As a cell takes it. */
        private long single(long v) {
            long one = Val.isArray(v) ? items[Val.first(v)] : v;
            return Val.lone(one);
        }

        private int spell(long v, byte[] to, int at) {
            switch ((int) (v & 7)) {
                case NUMBER:
                    return Val.spellNumber(v >> 3, to, at);
                case TEXT:
                    System.arraycopy(bytes, Val.textFrom(v), to, at, Val.textLength(v));
                    return at + Val.textLength(v);
                case TRUTH:
                    return Val.spellLetters(v == YES ? "TRUE" : "FALSE", to, at);
                case ERROR:
                    return Val.spellLetters(Val.sign((int) (v >> 3)), to, at);
                default:
                    return at;
            }
        }

        private void makeRoom() {
            if (made + 2 * TEXT_MOST > bytes.length) {
                bytes = Arrays.copyOf(bytes, bytes.length + bytes.length / 2);
            }
        }

        private long finish(int length) {
            if (length > TEXT_MOST) {
                return VALUE_ERROR;
            }
            long v = ((long) made << 6 | length) << 3 | TEXT;
            used[SPELLED] += length;
            stopped = stopped || used[SPELLED] > LIMIT[SPELLED];
            made += stopped ? 0 : length;
            return v;
        }

        private long join(long x, long y) {
            makeRoom();
            int behind = spell(x, bytes, made);
            return finish(spell(y, bytes, behind) - made);
        }

        private long slice(long text, long from, long length) {
            makeRoom();
            System.arraycopy(bytes, Val.textFrom(text) + (int) from, bytes, made, (int) length);
            return finish((int) length);
        }

        private long upper(long text) {
            makeRoom();
            int from = Val.textFrom(text);
            int length = Val.textLength(text);
            for (int k = 0; k < length; k++) {
                byte b = bytes[from + k];
                bytes[made + k] = b >= 'a' && b <= 'z' ? (byte) (b - 'a' + 'A') : b;
            }
            return finish(length);
        }

        /** A text as & has it, in a passing place (0 or 1) if it is not one yet. */
        private long textOf(long v, int place) {
            if ((v & 7) == TEXT) {
                return v;
            }
            int from = SCRATCH + place * 64;
            return Val.text(from, spell(v, bytes, from) - from);
        }

        /** Where the first text begins in the second, from 0; -1 if nowhere. */
        private int find(long part, long whole) {
            int length = Val.textLength(part);
            int last = Val.textLength(whole) - length;
            for (int start = 0; start <= last; start++) {
                int k = 0;
                while (k < length && bytes[Val.textFrom(part) + k] == bytes[Val.textFrom(whole) + start + k]) {
                    k++;
                }
                if (k == length) {
                    return start;
                }
            }
            return -1;
        }

        /** Below 0, 0 or above as x comes before y, with it or behind; an error comes behind all else. */
        private int compare(long x, long y) {
            int left = (int) (x & 7);
            int right = (int) (y & 7);
            if (left == TEXT && right == TEXT) {
                return compareTexts((int) (x >> 9), (int) (x >> 3 & 63), (int) (y >> 9), (int) (y >> 3 & 63));
            }
            if (left == NOTHING || right == NOTHING) {
                long other = left == NOTHING ? y : x;
                long size = (other & 7) == TEXT ? other >> 3 & 63 : other >> 3;
                int above = Long.compare(size, 0);
                return left == NOTHING ? -above : above;
            }
            return left != right ? left - right : Long.compare(x, y);
        }

        private int compareTexts(int x, int xLength, int y, int yLength) {
            for (int k = 0; k < xLength && k < yLength; k++) {
                if (bytes[x + k] != bytes[y + k]) {
                    return bytes[x + k] - bytes[y + k];
                }
            }
            return xLength - yLength;
        }

        /** Texts of cells lie in the cell's own place, where they stay until it gets another value. */
        private long keep(int cell, long v) {
            if ((v & 7) != TEXT) {
                return v;
            }
            return keepBytes(cell, bytes, Val.textFrom(v), Val.textLength(v));
        }

        private long keepBytes(int cell, byte[] from, int at, int length) {
            System.arraycopy(from, at, bytes, cell * TEXT_MOST, length);
            return Val.text(cell * TEXT_MOST, length);
        }
    }

    /** The things that formulas and constants are made of, as they stand in rows of bytes. */
    private static final class Lexer {
        private static final int COLUMN_FIXED = 1 << 12;
        private static final int ROW_FIXED = 1 << 13;
        private static final int LENGTH_SHIFT = 14;
        private static final long NONE = -1L << 62;

        private static boolean isLetter(int b) {
            return b >= 'A' && b <= 'Z';
        }

        private static boolean isDigit(int b) {
            return b >= '0' && b <= '9';
        }

        private static boolean isInner(int b) {
            return b >= 'A' && b <= 'Z' || b >= '0' && b <= '9' || b == '_';
        }

        /** Behind the word that begins there (a cell or a truth may look like one), or there if none does. */
        private static int wordEnd(byte[] s, int at, int to) {
            if (at >= to || !isLetter(s[at])) {
                return at;
            }
            int stop = Math.min(to, at + WORD_MOST);
            int p = at + 1;
            while (p < stop && isInner(s[p])) {
                p++;
            }
            return p;
        }

        /** Each word has a number of its own: 38 to the 12th is less than 2 to the 63rd. */
        private static long key(byte[] s, int at, int to) {
            long key = 0;
            for (int p = at; p < to; p++) {
                int b = s[p];
                int digit = b == '_' ? 37 : b >= 'A' ? b - 'A' + 1 : b - '0' + 27;
                key = key * 38 + digit;
            }
            return key;
        }

        /** Column, row, which of them have $, and the length, in one int; -1 if no cell begins there. */
        private static int cell(byte[] s, int at, int to) {
            int p = at;
            int fixed = 0;
            if (p < to && s[p] == '$') {
                fixed = COLUMN_FIXED;
                p++;
            }
            if (p >= to || !isLetter(s[p])) {
                return -1;
            }
            int column = s[p] - 'A';
            p++;
            if (p < to && s[p] == '$') {
                fixed |= ROW_FIXED;
                p++;
            }
            if (p >= to || s[p] == '0') {
                return -1;
            }
            int row = 0;
            for (int digits = 0; digits < 2 && p < to && isDigit(s[p]); digits++) {
                row = row * 10 + s[p] - '0';
                p++;
            }
            if (row < 1 || row > ROWS || p < to && isInner(s[p])) {
                return -1;
            }
            return column | row - 1 << 5 | fixed | p - at << LENGTH_SHIFT;
        }

        private static int columnOf(int cell) {
            return cell & 31;
        }

        private static int rowOf(int cell) {
            return cell >> 5 & 127;
        }

        private static int lengthOf(int cell) {
            return cell >> LENGTH_SHIFT;
        }

        /** Behind the number that begins there. */
        private static int numberEnd(byte[] s, int at, int to) {
            int p = at;
            while (p < to && p < at + 11 && s[p] >= '0' && s[p] <= '9') {
                p++;
            }
            int point = p;
            if (p == at || p >= to || s[p] != '.') {
                return p;
            }
            p++;
            while (p < to && p < point + 5 && s[p] >= '0' && s[p] <= '9') {
                p++;
            }
            return p > point + 1 ? p : point;
        }

        /** Times 10000. */
        private static long number(byte[] s, int at, int to) {
            long n = 0;
            long place = 0;
            for (int p = at; p < to; p++) {
                if (s[p] == '.') {
                    place = UNIT;
                } else {
                    n = n * 10 + s[p] - '0';
                    place /= 10;
                }
            }
            return place == 0 ? n * UNIT : n * place;
        }

        /** Behind the text in quotes that begins there, or -1 if it is broken. */
        private static int textEnd(byte[] s, int at, int to) {
            for (int p = at + 1; p < to; p++) {
                if (s[p] < 32 || s[p] > 126) {
                    return -1;
                }
                if (s[p] == '"') {
                    if (p + 1 >= to || s[p + 1] != '"') {
                        return p + 1;
                    }
                    p++;
                }
            }
            return -1;
        }

        private static boolean matches(byte[] s, int at, int to, String letters) {
            int length = letters.length();
            if (at + length > to) {
                return false;
            }
            for (int k = 0; k < length; k++) {
                if (s[at + k] != letters.charAt(k)) {
                    return false;
                }
            }
            return true;
        }

        private static boolean equal(byte[] s, int at, int to, String letters) {
            return to - at == letters.length() && matches(s, at, to, letters);
        }

        /** Which error's sign begins there; 0 if none does. */
        private static int error(byte[] s, int at, int to) {
            for (int which = 1; which <= ERRORS; which++) {
                if (matches(s, at, to, Val.sign(which))) {
                    return which;
                }
            }
            return 0;
        }

        /** The number that all these bytes are, as a constant; NONE if they are not. */
        private static long constantNumber(byte[] s, int at, int to) {
            int start = at < to && s[at] == '-' ? at + 1 : at;
            int stop = numberEnd(s, start, to);
            if (stop == start || stop != to) {
                return NONE;
            }
            long n = number(s, start, to);
            if (n > GREATEST) {
                return NONE;
            }
            return start > at ? -n : n;
        }

        /** Whether these bytes would be something else than a text if they were written so. */
        private static boolean needsQuote(byte[] s, int at, int length) {
            int to = at + length;
            return length == 0 || s[at] == '=' || s[at] == '\'' || equal(s, at, to, "TRUE")
                    || equal(s, at, to, "FALSE") || constantNumber(s, at, to) != NONE;
        }
    }

    /** What makes one value of others; the shape of a table's parameters: one value x, any a, function f. */
    private enum Fn {
        ADD("+", NUMBERS, 2, 2, ""),
        SUBTRACT("-", NUMBERS, 2, 2, ""),
        MULTIPLY("*", NUMBERS, 2, 2, ""),
        DIVIDE("/", NUMBERS, 2, 2, ""),
        NEGATE("-", NUMBERS, 1, 1, ""),
        PERCENT("%", NUMBERS, 1, 1, ""),
        JOIN("&", JOINED, 2, 2, ""),
        EQUAL("=", ORDER, 2, 2, ""),
        UNEQUAL("<>", ORDER, 2, 2, ""),
        LESS_EQUAL("<=", ORDER, 2, 2, ""),
        MORE_EQUAL(">=", ORDER, 2, 2, ""),
        LESS("<", ORDER, 2, 2, ""),
        MORE(">", ORDER, 2, 2, ""),
        PICK("", CHOICE, 3, 3, ""),
        RESCUE("", CHOICE, 2, 2, ""),
        NOT("NOT", CHOICE, 1, 1, ""),
        ABS("ABS", NUMBERS, 1, 1, ""),
        INT("INT", NUMBERS, 1, 1, ""),
        ROUND("ROUND", NUMBERS, 2, 2, ""),
        MOD("MOD", NUMBERS, 2, 2, ""),
        LEN("LEN", TEXTS, 1, 1, ""),
        UPPER("UPPER", TEXTS, 1, 1, ""),
        LEFT("LEFT", TEXTS, 2, 2, ""),
        RIGHT("RIGHT", TEXTS, 2, 2, ""),
        MID("MID", TEXTS, 3, 3, ""),
        FIND("FIND", SEARCH, 2, 2, ""),
        SUM("SUM", FOLD, 1, 8, ""),
        MIN("MIN", FOLD, 1, 8, ""),
        MAX("MAX", FOLD, 1, 8, ""),
        COUNT("COUNT", FOLD, 1, 8, ""),
        AVERAGE("AVERAGE", FOLD, 1, 8, ""),
        PRODUCT("PRODUCT", FOLD, 1, 8, ""),
        AND("AND", FOLD, 1, 8, ""),
        OR("OR", FOLD, 1, 8, ""),
        COUNTA("COUNTA", FOLD, 1, 8, ""),
        ROWS_OF("ROWS", TABLE, 1, 1, "a"),
        COLUMNS_OF("COLUMNS", TABLE, 1, 1, "a"),
        TRANSPOSE("TRANSPOSE", TABLE, 1, 1, "a"),
        INDEX("INDEX", TABLE, 3, 3, "axx"),
        MATCH("MATCH", TABLE, 2, 2, "xa"),
        SEQUENCE("SEQUENCE", TABLE, 4, 4, "xxxx"),
        SORT("SORT", TABLE, 1, 1, "a"),
        UNIQUE("UNIQUE", TABLE, 1, 1, "a"),
        FILTER("FILTER", TABLE, 2, 2, "aa"),
        VLOOKUP("VLOOKUP", TABLE, 3, 3, "xax"),
        SUMIF("SUMIF", TABLE, 3, 3, "axa"),
        MAP("MAP", CALLING, 2, 2, "af"),
        REDUCE("REDUCE", CALLING, 3, 3, "aaf"),
        MAKEARRAY("MAKEARRAY", CALLING, 3, 3, "xxf"),
        IF("IF", FORM, 2, 3, ""),
        IFERROR("IFERROR", FORM, 2, 2, ""),
        CHOOSE_ONE("CHOOSE", FORM, 2, 1 + CHOICES_MOST, ""),
        LET("LET", FORM, 3, 2 * WORDS_MOST + 1, ""),
        LAMBDA_OF("LAMBDA", FORM, 1, WORDS_MOST + 1, "");

        private static final Fn[] ALL = values();

        private final String letters;
        private final int group;
        private final int least;
        private final int most;
        private final String shape;

        Fn(String letters, int group, int least, int most, String shape) {
            this.letters = letters;
            this.group = group;
            this.least = least;
            this.most = most;
            this.shape = shape;
        }

        private static Fn of(byte[] s, int at, int to) {
            for (int k = 0; k < ALL.length; k++) {
                if (Lexer.equal(s, at, to, ALL[k].letters)) {
                    return ALL[k];
                }
            }
            return null;
        }
    }

    /** Reads a formula: writes it as it is shown, notes what it rests on, and makes the machine's steps of it. */
    private static final class Reader {
        /** A formula makes fewer than five steps of four bytes. */
        private static final int TAPE_STEPS = TAPE_MOST / 4 * 5;
        private static final int NAME_STEPS = SHOWN_MOST / 4 * 5 + 5;
        private static final int STEPS = TAPE_STEPS + NAMES_MOST * NAME_STEPS;

        private final Store store;
        private final Sheet sheet;
        private final byte[] shown = new byte[TAPE_MOST];
        private int shownLength;
        private int place = -1;
        private final int[] need = new int[ROWS];
        private int named;
        private final int[] step = new int[STEPS];
        private final int[] arg = new int[STEPS];
        private final long[] big = new long[STEPS];
        private final Fn[] what = new Fn[STEPS];
        private final int[] ends = new int[NAMES_MOST + 1];
        private byte[] source;
        private int at;
        private int to;
        private int open;
        private int next;
        private int limit;
        private int literal;

        private Reader(Store store, Sheet sheet) {
            this.store = store;
            this.sheet = sheet;
            source = shown;
        }

        private static int startOf(int zone) {
            return zone == 0 ? 0 : TAPE_STEPS + (zone - 1) * NAME_STEPS;
        }

        /** Zone 0 is for what comes and goes, zone k + 1 keeps the steps of name k. */
        private void read(byte[] bytes, int from, int stop, int zone) {
            source = bytes;
            at = from;
            to = stop;
            open = 0;
            shownLength = 0;
            named = 0;
            Arrays.fill(need, 0);
            next = startOf(zone);
            limit = startOf(zone + 1);
            literal = Store.LITERALS + (zone == 0 ? 0 : TAPE_MOST + (zone - 1) * SHOWN_MOST);
            if (nextByte() != '=') {
                fail();
            }
            take(1);
            level(0);
            if (nextByte() >= 0) {
                fail();
            }
            ends[zone] = next;
        }

        /** Answers where the word of a name ends that begins the tape. */
        private int readNameWord(byte[] bytes, int length) {
            source = bytes;
            at = 0;
            to = length;
            int stop = wordHere();
            if (stop == 0 || Fn.of(bytes, 0, stop) != null) {
                fail();
            }
            return stop;
        }

        /** The NUMBER or TRUTH that these bytes are, else nothing: then they are a text. */
        private long constant(byte[] bytes, int length) {
            for (at = 0; at < length; at++) {
                if (bytes[at] < 32 || bytes[at] > 126) {
                    fail();
                }
            }
            long n = Lexer.constantNumber(bytes, 0, length);
            if (n != Lexer.NONE) {
                return Val.number(n);
            }
            if (Lexer.equal(bytes, 0, length, "TRUE")) {
                return YES;
            }
            return Lexer.equal(bytes, 0, length, "FALSE") ? NO : EMPTY;
        }

        private void fail() {
            place = at;
            throw new UnsupportedOperationException();
        }

        /** Goes over blanks; answers the byte that stands there then, -1 at the end. */
        private int nextByte() {
            while (at < to && source[at] == ' ') {
                at++;
            }
            return at < to ? source[at] & 255 : -1;
        }

        private void take(int n) {
            System.arraycopy(source, at, shown, shownLength, n);
            shownLength += n;
            at += n;
        }

        private int emit(int code, int small, long large, Fn fn) {
            int here = next;
            if (here < limit) {
                step[here] = code;
                arg[here] = small;
                big[here] = large;
                what[here] = fn;
                next++;
            }
            return here;
        }

        private void takeOpen(char opening) {
            if (nextByte() != opening || open == OPEN_MOST) {
                fail();
            }
            open++;
            take(1);
        }

        private void takeClose(char closing) {
            if (nextByte() != closing) {
                fail();
            }
            open--;
            take(1);
        }

        private Fn operator(int rank) {
            int b = nextByte();
            int behind = at + 1 < to ? source[at + 1] : ' ';
            switch (b) {
                case '=':
                    return rank == 0 ? Fn.EQUAL : null;
                case '<':
                    return rank != 0 ? null : behind == '>' ? Fn.UNEQUAL : behind == '=' ? Fn.LESS_EQUAL : Fn.LESS;
                case '>':
                    return rank != 0 ? null : behind == '=' ? Fn.MORE_EQUAL : Fn.MORE;
                case '&':
                    return rank == 1 ? Fn.JOIN : null;
                case '+':
                    return rank == 2 ? Fn.ADD : null;
                case '-':
                    return rank == 2 ? Fn.SUBTRACT : null;
                case '*':
                    return rank == 3 ? Fn.MULTIPLY : null;
                case '/':
                    return rank == 3 ? Fn.DIVIDE : null;
                default:
                    return null;
            }
        }

        /** What operators of this rank join (0 comparisons .. 3 products); tells if it is just a cell. */
        private boolean level(int rank) {
            boolean cell = rank == 3 ? signed() : level(rank + 1);
            Fn operator = operator(rank);
            for (int guard = 0; operator != null && guard < TAPE_MOST; guard++) {
                take(operator.letters.length());
                if (rank == 3) {
                    signed();
                } else {
                    level(rank + 1);
                }
                emit(APPLY, 2, 0, operator);
                cell = false;
                operator = operator(rank);
            }
            return cell;
        }

        private boolean signed() {
            int signs = 0;
            int minus = 0;
            for (int b = nextByte(); (b == '+' || b == '-') && signs < TAPE_MOST; b = nextByte()) {
                minus += b == '-' ? 1 : 0;
                signs++;
                take(1);
            }
            boolean cell = called();
            for (int b = nextByte(); b == '%' && signs < TAPE_MOST; b = nextByte()) {
                signs++;
                take(1);
                emit(APPLY, 1, 0, Fn.PERCENT);
            }
            for (int k = 0; k < minus; k++) {
                emit(APPLY, 1, 0, Fn.NEGATE);
            }
            return cell && signs == 0;
        }

        private boolean called() {
            boolean cell = atom();
            for (int guard = 0; nextByte() == '(' && guard < TAPE_MOST; guard++) {
                takeOpen('(');
                int n = 0;
                if (nextByte() == ')') {
                    takeClose(')');
                } else {
                    level(0);
                    n++;
                    while (n < TAPE_MOST && more(n, 0, TAPE_MOST)) {
                        level(0);
                        n++;
                    }
                }
                emit(CALL, n, 0, null);
                cell = false;
            }
            return cell;
        }

        /** Takes what stands behind the n-th E; tells if there is another one. */
        private boolean more(int n, int least, int most) {
            if (nextByte() == ',') {
                take(1);
                if (n >= most) {
                    nextByte();
                    fail();
                }
                return true;
            }
            if (n < least) {
                fail();
            }
            takeClose(')');
            return false;
        }

        private boolean atom() {
            int b = nextByte();
            if (b == '(') {
                takeOpen('(');
                boolean cell = level(0);
                takeClose(')');
                return cell;
            }
            if (b == '{') {
                braces();
                return false;
            }
            if (b == '$' || Lexer.isLetter(b)) {
                return lettered();
            }
            emit(PUSH, 0, literal(), null);
            return false;
        }

        /** A number, a text, an error or a truth. */
        private long literal() {
            int b = nextByte();
            if (Lexer.isDigit(b)) {
                return Val.number(numeral());
            }
            if (b == '"') {
                return quoted();
            }
            int error = b == '#' ? Lexer.error(source, at, to) : 0;
            if (error > 0) {
                take(Val.sign(error).length());
                return (long) error << 3 | ERROR;
            }
            int stop = Lexer.wordEnd(source, at, to);
            boolean yes = Lexer.equal(source, at, stop, "TRUE");
            if (!yes && !Lexer.equal(source, at, stop, "FALSE")) {
                fail();
            }
            take(stop - at);
            return Val.truth(yes);
        }

        private long numeral() {
            int stop = Lexer.numberEnd(source, at, to);
            long n = Lexer.number(source, at, stop);
            if (n > GREATEST) {
                fail();
            }
            shownLength = Val.spellNumber(n, shown, shownLength);
            at = stop;
            return n;
        }

        private long quoted() {
            int stop = Lexer.textEnd(source, at, to);
            if (stop < 0) {
                fail();
            }
            int from = literal;
            for (int p = at + 1; p < stop - 1; p++) {
                store.bytes[literal] = source[p];
                literal++;
                if (source[p] == '"') {
                    p++;
                }
            }
            take(stop - at);
            return literal - from > TEXT_MOST ? VALUE_ERROR : Val.text(from, literal - from);
        }

        private void braces() {
            takeOpen('{');
            int columns = 0;
            int rows = 0;
            int inRow = 0;
            for (int guard = 0; guard < TAPE_MOST; guard++) {
                boolean minus = nextByte() == '-';
                if (minus) {
                    take(1);
                }
                if (minus && !Lexer.isDigit(nextByte())) {
                    fail();
                }
                long v = literal();
                emit(PUSH, 0, minus ? Val.number(-Val.load(v)) : v, null);
                inRow++;
                int b = nextByte();
                boolean row = b == ';' || b == '}';
                if (!row && b != ',' || rows > 0 && (row ? inRow < columns : inRow == columns)) {
                    fail();
                }
                if (row) {
                    columns = inRow;
                    inRow = 0;
                    rows++;
                }
                if (b == '}') {
                    break;
                }
                take(1);
            }
            takeClose('}');
            emit(PUSH_BRACES, rows << 12 | columns, 0, null);
        }

        /** A cell, a range, a truth, a function or a word. */
        private boolean lettered() {
            int cell = Lexer.cell(source, at, to);
            if (cell >= 0) {
                return cellOrRange(cell);
            }
            int stop = wordHere();
            if (stop == at) {
                emit(PUSH, 0, literal(), null);
                return false;
            }
            int from = at;
            take(stop - at);
            Fn fn = nextByte() == '(' ? Fn.of(source, from, stop) : null;
            if (fn != null) {
                function(fn);
                return false;
            }
            long key = Lexer.key(source, from, stop);
            int k = sheet.nameOf(key);
            named |= k < 0 ? 0 : 1 << k;
            emit(PUSH_WORD, 0, key, null);
            return false;
        }

        private boolean cellOrRange(int cell) {
            take(Lexer.lengthOf(cell));
            int row = Lexer.rowOf(cell);
            int column = Lexer.columnOf(cell);
            if (nextByte() != ':') {
                need[row] |= 1 << column;
                emit(PUSH_CELL, row * COLUMNS + column, 0, null);
                return true;
            }
            take(1);
            nextByte();
            int other = Lexer.cell(source, at, to);
            if (other < 0) {
                fail();
            }
            take(Lexer.lengthOf(other));
            int top = Math.min(row, Lexer.rowOf(other));
            int left = Math.min(column, Lexer.columnOf(other));
            int high = Math.max(row, Lexer.rowOf(other)) - top + 1;
            int wide = Math.max(column, Lexer.columnOf(other)) - left + 1;
            for (int k = top; k < top + high; k++) {
                need[k] |= (1 << wide) - 1 << left;
            }
            emit(PUSH_RANGE, top * COLUMNS + left, high << 12 | wide, null);
            return false;
        }

        private void function(Fn fn) {
            takeOpen('(');
            switch (fn) {
                case IF:
                    ifForm();
                    break;
                case IFERROR:
                    ifErrorForm();
                    break;
                case CHOOSE_ONE:
                    chooseForm();
                    break;
                case LET:
                    letForm();
                    break;
                case LAMBDA_OF:
                    lambdaForm();
                    break;
                default:
                    plainForm(fn);
                    break;
            }
        }

        /** Beside the number of E it keeps which of them are just a cell. */
        private void plainForm(Fn fn) {
            int n = 0;
            int cells = 0;
            boolean another = true;
            while (another && n < fn.most) {
                cells |= level(0) ? 1 << n : 0;
                n++;
                another = more(n, fn.least, fn.most);
            }
            emit(APPLY, n | cells << 8, 0, fn);
        }

        private void ifForm() {
            level(0);
            more(1, Fn.IF.least, Fn.IF.most);
            int test = emit(IF_TEST, 0, 0, null);
            level(0);
            boolean third = more(2, Fn.IF.least, Fn.IF.most);
            int middle = emit(IF_ELSE, 0, 0, null);
            if (third) {
                level(0);
                more(3, Fn.IF.least, Fn.IF.most);
            } else {
                emit(PUSH, 0, NO, null);
            }
            arg[test] = middle;
            arg[middle] = emit(IF_END, 0, 0, null);
        }

        private void ifErrorForm() {
            level(0);
            more(1, 2, 2);
            int test = emit(ERROR_TEST, 0, 0, null);
            level(0);
            more(2, 2, 2);
            arg[test] = emit(ERROR_END, 0, 0, null);
        }

        /** Behind the step stand the places where the choices begin, and behind each choice a jump. */
        private void chooseForm() {
            level(0);
            more(1, Fn.CHOOSE_ONE.least, Fn.CHOOSE_ONE.most);
            int choose = emit(CHOOSE, 0, 0, null);
            for (int k = 0; k < CHOICES_MOST; k++) {
                emit(DATA, 0, 0, null);
            }
            int n = 0;
            boolean another = true;
            while (another && n < CHOICES_MOST) {
                n++;
                arg[choose + n] = next;
                level(0);
                emit(JUMP, 0, 0, null);
                another = more(n + 1, Fn.CHOOSE_ONE.least, Fn.CHOOSE_ONE.most);
            }
            for (int k = 1; k <= n; k++) {
                arg[(k < n ? arg[choose + k + 1] : next) - 1] = next;
            }
            arg[choose] = n;
            big[choose] = next;
        }

        /** Whether a word stands there with a comma behind it. */
        private boolean declares() {
            nextByte();
            int p = wordHere();
            if (p == at) {
                return false;
            }
            while (p < to && source[p] == ' ') {
                p++;
            }
            return p < to && source[p] == ',';
        }

        /** Where the word ends that stands there; there, if none does. */
        private int wordHere() {
            int stop = Lexer.wordEnd(source, at, to);
            boolean other = Lexer.cell(source, at, to) >= 0 || Lexer.equal(source, at, stop, "TRUE")
                    || Lexer.equal(source, at, stop, "FALSE");
            return other ? at : stop;
        }

        private long takeDeclared() {
            nextByte();
            int from = at;
            int stop = wordHere();
            if (stop == from) {
                fail();
            }
            take(stop - from);
            if (nextByte() != ',') {
                fail();
            }
            take(1);
            return Lexer.key(source, from, stop);
        }

        private void letForm() {
            int words = 0;
            do {
                long key = takeDeclared();
                level(0);
                emit(BIND, 0, key, null);
                words++;
                more(2 * words, 2 * words + 1, 2 * words + 1);
            } while (words < WORDS_MOST && declares());
            level(0);
            more(2 * words + 1, 0, 2 * words + 1);
            emit(UNBIND, words, 0, null);
        }

        private void lambdaForm() {
            int start = emit(LAMBDA, 0, 0, null);
            int words = 0;
            while (words < WORDS_MOST && declares()) {
                emit(DATA, 0, takeDeclared(), null);
                words++;
            }
            level(0);
            more(words + 1, 0, words + 1);
            arg[start] = words << 16 | next;
        }
    }

    /** Writes formulas anew with their references moved. */
    private static final class Mover {
        private static final int SECOND_SHIFT = 7;
        private static final int FIRST_FIXED = 1 << 14;
        private static final int SECOND_FIXED = 1 << 15;

        private final byte[] moved = new byte[1024];
        private int length;
        private boolean copying;
        private int down;
        private int right;
        private boolean columns;
        private boolean removing;
        private int line;
        private int many;

        private void aimCopy(int down, int right) {
            copying = true;
            this.down = down;
            this.right = right;
        }

        private void aimLines(boolean columns, int line, int many, boolean removing) {
            copying = false;
            this.columns = columns;
            this.line = line;
            this.many = many;
            this.removing = removing;
        }

        /** Answers how many bytes it has then. */
        private int move(byte[] s, int to) {
            length = 0;
            int p = 0;
            for (int guard = 0; p < to && guard < to; guard++) {
                int cell = Lexer.cell(s, p, to);
                if (cell >= 0) {
                    p = moveReference(s, p, to, cell);
                } else {
                    int stop = otherEnd(s, p, to);
                    System.arraycopy(s, p, moved, length, stop - p);
                    length += stop - p;
                    p = stop;
                }
            }
            return length;
        }

        /** Answers where the cell ends that begins there, or the range that begins with it. */
        private int moveReference(byte[] s, int at, int to, int cell) {
            int stop = at + Lexer.lengthOf(cell);
            int other = stop < to && s[stop] == ':' ? Lexer.cell(s, stop + 1, to) : -1;
            if (other < 0) {
                moveCell(cell);
                return stop;
            }
            moveRange(cell, other);
            return stop + 1 + Lexer.lengthOf(other);
        }

        /** Behind what stands there and is no cell: letters within it are none of its own. */
        private static int otherEnd(byte[] s, int at, int to) {
            int stop = s[at] == '"' ? Lexer.textEnd(s, at, to) : Lexer.wordEnd(s, at, to);
            return stop > at ? stop : at + 1;
        }

        /** Where a row or column comes to; -1 if it goes or lies beyond the sheet then. */
        private int goal(boolean column, int n, boolean fixed) {
            int lines = column ? COLUMNS : ROWS;
            int there = n;
            if (copying) {
                there = fixed ? n : n + (column ? right : down);
            } else if (column == columns && n >= line) {
                there = !removing ? n + many : n < line + many ? -1 : n - many;
            }
            return there < lines ? there : -1;
        }

        private void moveCell(int cell) {
            boolean columnFixed = (cell & Lexer.COLUMN_FIXED) != 0;
            boolean rowFixed = (cell & Lexer.ROW_FIXED) != 0;
            int column = goal(true, Lexer.columnOf(cell), columnFixed);
            int row = goal(false, Lexer.rowOf(cell), rowFixed);
            if (column < 0 || row < 0) {
                writeLost();
            } else {
                writeCell(column, columnFixed, row, rowFixed);
            }
        }

        private void moveRange(int cell, int other) {
            int across = ends(true, cell, other);
            int along = ends(false, cell, other);
            if (across < 0 || along < 0) {
                writeLost();
                return;
            }
            writeCell(across & 127, (across & FIRST_FIXED) != 0, along & 127, (along & FIRST_FIXED) != 0);
            moved[length] = ':';
            length++;
            writeCell(across >> SECOND_SHIFT & 127, (across & SECOND_FIXED) != 0,
                    along >> SECOND_SHIFT & 127, (along & SECOND_FIXED) != 0);
        }

        /** Both ends of a range, in order, in one int; -1 if none is left of it. */
        private int ends(boolean column, int cell, int other) {
            int a = column ? Lexer.columnOf(cell) : Lexer.rowOf(cell);
            int b = column ? Lexer.columnOf(other) : Lexer.rowOf(other);
            int mask = column ? Lexer.COLUMN_FIXED : Lexer.ROW_FIXED;
            boolean aFixed = (cell & mask) != 0;
            boolean bFixed = (other & mask) != 0;
            if (copying) {
                a = goal(column, a, aFixed);
                b = goal(column, b, bFixed);
                return a < 0 || b < 0 ? -1 : inOrder(a, aFixed, b, bFixed);
            }
            int low = Math.min(a, b);
            int high = Math.max(a, b);
            while (low <= high && goal(column, low, false) < 0) {
                low++;
            }
            while (low <= high && goal(column, high, false) < 0) {
                high--;
            }
            if (low > high) {
                return -1;
            }
            boolean swap = a > b;
            return inOrder(goal(column, low, false), swap ? bFixed : aFixed,
                    goal(column, high, false), swap ? aFixed : bFixed);
        }

        private static int inOrder(int a, boolean aFixed, int b, boolean bFixed) {
            boolean swap = a > b;
            int first = swap ? b : a;
            int second = swap ? a : b;
            int fixed = (swap ? bFixed : aFixed) ? FIRST_FIXED : 0;
            fixed |= (swap ? aFixed : bFixed) ? SECOND_FIXED : 0;
            return first | second << SECOND_SHIFT | fixed;
        }

        private void writeLost() {
            length = Val.spellLetters(Val.sign(3), moved, length);
        }

        private void writeCell(int column, boolean columnFixed, int row, boolean rowFixed) {
            if (columnFixed) {
                moved[length] = '$';
                length++;
            }
            moved[length] = (byte) ('A' + column);
            length++;
            if (rowFixed) {
                moved[length] = '$';
                length++;
            }
            length = Val.spellNumber((row + 1) * UNIT, moved, length);
        }
    }

    /** What the cells hold. Formulas lie in slots: the first ones are for names, the others are told by their cells. */
    private static final class Sheet {
        private final Store store;
        private final long[] values = new long[CELLS];
        private final int[] holder = new int[CELLS];
        private final boolean[] filled = new boolean[CELLS];
        private int filledCount;
        private final byte[][] formula = new byte[SLOTS][];
        private final int[][] need = new int[SLOTS][];
        private final int[] length = new int[SLOTS];
        private final int[] named = new int[SLOTS];
        private final int[] corner = new int[SLOTS];
        private final int[] high = new int[SLOTS];
        private final int[] wide = new int[SLOTS];
        private final int[] cells = new int[SLOTS];
        private final int[] twin = new int[SLOTS];
        private final int[] free = new int[SLOTS];
        private int freeCount;
        private int slotEnd;
        private final long[] nameKey = new long[NAMES_MOST];
        private int nameCount;

        private Sheet(Store store) {
            this.store = store;
            Arrays.fill(holder, -1);
            freeCount = SLOTS - NAMES_MOST;
            for (int k = 0; k < freeCount; k++) {
                free[k] = SLOTS - 1 - k;
            }
            slotEnd = NAMES_MOST;
        }

        private int nameOf(long key) {
            for (int k = 0; k < nameCount; k++) {
                if (nameKey[k] == key) {
                    return k;
                }
            }
            return -1;
        }

        private int addName(long key) {
            nameKey[nameCount] = key;
            nameCount++;
            return nameCount - 1;
        }

        private boolean lives(int slot) {
            return slot < NAMES_MOST ? slot < nameCount : cells[slot] > 0;
        }

        private int takeSlot() {
            freeCount--;
            slotEnd = Math.max(slotEnd, free[freeCount] + 1);
            return free[freeCount];
        }

        private void write(int slot, byte[] bytes, int n) {
            if (formula[slot] == null) {
                formula[slot] = new byte[SHOWN_MOST];
            }
            System.arraycopy(bytes, 0, formula[slot], 0, n);
            length[slot] = n;
        }

        private void rest(int slot, int[] needs, int names) {
            if (need[slot] == null) {
                need[slot] = new int[ROWS];
            }
            System.arraycopy(needs, 0, need[slot], 0, ROWS);
            named[slot] = names;
        }

        private void shape(int slot, int cell, int h, int w) {
            corner[slot] = cell;
            high[slot] = h;
            wide[slot] = w;
        }

        private void occupy(int slot) {
            for (int i = 0; i < high[slot]; i++) {
                for (int j = 0; j < wide[slot]; j++) {
                    putHolder(corner[slot] + i * COLUMNS + j, slot);
                }
            }
        }

        private void putHolder(int cell, int slot) {
            holder[cell] = slot;
            cells[slot]++;
            filled[cell] = true;
            filledCount++;
        }

        private void putConstant(int cell, long v) {
            values[cell] = v;
            filled[cell] = true;
            filledCount++;
        }

        private void wipe(int cell) {
            int slot = holder[cell];
            if (slot >= 0) {
                cells[slot]--;
                if (cells[slot] == 0) {
                    free[freeCount] = slot;
                    freeCount++;
                }
            }
            filledCount -= filled[cell] ? 1 : 0;
            filled[cell] = false;
            holder[cell] = -1;
            values[cell] = EMPTY;
        }

        private void wipeAll(int r, int c, int h, int w) {
            for (int row = r; row < r + h; row++) {
                for (int cell = row * COLUMNS + c; cell < row * COLUMNS + c + w; cell++) {
                    wipe(cell);
                }
            }
        }

        /** Whether a part of an area, but not all of it, lies there. */
        private boolean cuts(int r, int c, int h, int w) {
            for (int row = r; row < r + h; row++) {
                for (int column = c; column < c + w; column++) {
                    int slot = holder[row * COLUMNS + column];
                    if (slot >= 0 && !within(slot, r, c, h, w)) {
                        return true;
                    }
                }
            }
            return false;
        }

        private boolean within(int slot, int r, int c, int h, int w) {
            int row = corner[slot] / COLUMNS;
            int column = corner[slot] % COLUMNS;
            return row >= r && row + high[slot] <= r + h && column >= c && column + wide[slot] <= c + w;
        }

        /** Whether lines put in before k would cut an area. */
        private boolean splits(boolean columns, int k) {
            for (int slot = NAMES_MOST; slot < slotEnd; slot++) {
                int first = columns ? corner[slot] % COLUMNS : corner[slot] / COLUMNS;
                int many = columns ? wide[slot] : high[slot];
                if (cells[slot] > 0 && k > first && k < first + many) {
                    return true;
                }
            }
            return false;
        }

        private boolean isIn(int slot, boolean columns, int k, int n) {
            if (slot < NAMES_MOST) {
                return false;
            }
            int first = columns ? corner[slot] % COLUMNS : corner[slot] / COLUMNS;
            return first >= k && first < k + n;
        }

        private boolean anyFilled(boolean columns, int k, int n) {
            for (int cell = 0; cell < CELLS; cell++) {
                int line = columns ? cell % COLUMNS : cell / COLUMNS;
                if (filled[cell] && line >= k && line < k + n) {
                    return true;
                }
            }
            return false;
        }

        private void openLines(boolean columns, int k, int n) {
            int lines = columns ? COLUMNS : ROWS;
            for (int line = lines - 1; line >= k + n; line--) {
                moveLine(columns, line - n, line);
            }
            moveCorners(columns, k, n);
        }

        private void closeLines(boolean columns, int k, int n) {
            int lines = columns ? COLUMNS : ROWS;
            if (columns) {
                wipeAll(0, k, ROWS, n);
            } else {
                wipeAll(k, 0, n, COLUMNS);
            }
            for (int line = k; line < lines - n; line++) {
                moveLine(columns, line + n, line);
            }
            moveCorners(columns, k, -n);
        }

        private void moveLine(boolean columns, int from, int to) {
            int across = columns ? ROWS : COLUMNS;
            for (int k = 0; k < across; k++) {
                int source = columns ? k * COLUMNS + from : from * COLUMNS + k;
                int goal = columns ? k * COLUMNS + to : to * COLUMNS + k;
                values[goal] = store.keep(goal, values[source]);
                holder[goal] = holder[source];
                filled[goal] = filled[source];
                values[source] = EMPTY;
                holder[source] = -1;
                filled[source] = false;
            }
        }

        private void moveCorners(boolean columns, int k, int by) {
            for (int slot = NAMES_MOST; slot < slotEnd; slot++) {
                int first = columns ? corner[slot] % COLUMNS : corner[slot] / COLUMNS;
                if (cells[slot] > 0 && first >= k) {
                    corner[slot] += columns ? by : by * COLUMNS;
                }
            }
        }

        private void forgetTwins() {
            for (int slot = NAMES_MOST; slot < slotEnd; slot++) {
                twin[slot] = -1;
            }
        }

        /** An area's cells come one by one; its first one to come makes the slot that all of them get. */
        private void copyCell(int from, int to, Mover mover) {
            int slot = holder[from];
            if (slot < 0) {
                long v = values[from];
                boolean something = filled[from];
                wipe(to);
                if (something) {
                    putConstant(to, store.keep(to, v));
                }
                return;
            }
            int copy = twin[slot];
            if (copy < 0) {
                copy = takeSlot();
                twin[slot] = copy;
                write(copy, mover.moved, mover.move(formula[slot], length[slot]));
                shape(copy, corner[slot] + to - from, high[slot], wide[slot]);
            }
            wipe(to);
            putHolder(to, copy);
        }

        private void fill(int slot, long v) {
            for (int i = 0; i < high[slot]; i++) {
                for (int j = 0; j < wide[slot]; j++) {
                    int cell = corner[slot] + i * COLUMNS + j;
                    values[cell] = store.keep(cell, Val.lone(store.at(v, i, j)));
                }
            }
        }
    }

    /** Which formulas hang on what has changed, in an order in which each comes behind what it hangs on. */
    private static final class Hangs {
        private final Sheet sheet;
        private final int[] reach = new int[SLOTS];
        private final boolean[] touched = new boolean[SLOTS];
        private final int[] queue = new int[SLOTS];
        private int queued;
        private final int[] order = new int[SLOTS];
        private int ordered;
        private final boolean[] circular = new boolean[SLOTS];
        private final int[] index = new int[SLOTS];
        private final int[] low = new int[SLOTS];
        private final int[] nextCell = new int[SLOTS];
        private final boolean[] waiting = new boolean[SLOTS];
        private final int[] pending = new int[SLOTS];
        private int pendingCount;
        private final int[] path = new int[SLOTS];
        private int deep;
        private int clock;

        private Hangs(Sheet sheet) {
            this.sheet = sheet;
        }

        /** All that rests in these cells or hangs on them. */
        private void touch(int r, int c, int h, int w) {
            begin();
            for (int slot = NAMES_MOST; slot < sheet.slotEnd; slot++) {
                if (sheet.cells[slot] > 0 && (sheet.within(slot, r, c, h, w) || leans(slot, r, c, h, w))) {
                    enqueue(slot);
                }
            }
            follow();
        }

        private void touchName(int k) {
            begin();
            for (int slot = NAMES_MOST; slot < sheet.slotEnd; slot++) {
                if (sheet.cells[slot] > 0 && (reach[slot] >> k & 1) != 0) {
                    enqueue(slot);
                }
            }
            follow();
        }

        private void touchAll() {
            begin();
            for (int slot = NAMES_MOST; slot < sheet.slotEnd; slot++) {
                if (sheet.cells[slot] > 0) {
                    enqueue(slot);
                }
            }
        }

        private void begin() {
            queued = 0;
            for (int slot = NAMES_MOST; slot < sheet.slotEnd; slot++) {
                touched[slot] = false;
                circular[slot] = false;
                waiting[slot] = false;
                index[slot] = 0;
                nextCell[slot] = 0;
            }
            closeNames();
        }

        /** The names that each formula hangs on, by however many. */
        private void closeNames() {
            int names = sheet.nameCount;
            for (int k = 0; k < names; k++) {
                reach[k] = sheet.named[k] | 1 << k;
            }
            for (int by = 0; by < names; by++) {
                for (int k = 0; k < names; k++) {
                    if ((reach[k] >> by & 1) != 0) {
                        reach[k] |= reach[by];
                    }
                }
            }
            for (int slot = NAMES_MOST; slot < sheet.slotEnd; slot++) {
                reach[slot] = 0;
                for (int k = 0; sheet.cells[slot] > 0 && k < names; k++) {
                    reach[slot] |= (sheet.named[slot] >> k & 1) != 0 ? reach[k] : 0;
                }
            }
        }

        private void enqueue(int slot) {
            touched[slot] = true;
            queue[queued] = slot;
            queued++;
        }

        private void follow() {
            for (int k = 0; k < queued; k++) {
                int by = queue[k];
                int r = sheet.corner[by] / COLUMNS;
                int c = sheet.corner[by] % COLUMNS;
                for (int slot = NAMES_MOST; slot < sheet.slotEnd; slot++) {
                    if (sheet.cells[slot] > 0 && !touched[slot]
                            && leans(slot, r, c, sheet.high[by], sheet.wide[by])) {
                        enqueue(slot);
                    }
                }
            }
        }

        /** Whether one of these cells, or a range with one, stands in it or in a name it hangs on. */
        private boolean leans(int slot, int r, int c, int h, int w) {
            int mask = (1 << w) - 1 << c;
            for (int row = r; row < r + h; row++) {
                if ((needOf(slot, row) & mask) != 0) {
                    return true;
                }
            }
            return false;
        }

        private int needOf(int slot, int row) {
            int mask = sheet.need[slot][row];
            for (int names = reach[slot], k = 0; names != 0 && k < NAMES_MOST; names >>= 1, k++) {
                mask |= (names & 1) != 0 ? sheet.need[k][row] : 0;
            }
            return mask;
        }

        /** Tarjan's way through the touched ones: rings of them come out together, behind all they hang on. */
        private void arrange() {
            ordered = 0;
            clock = 0;
            pendingCount = 0;
            deep = 0;
            for (int k = 0; k < queued; k++) {
                if (index[queue[k]] == 0) {
                    walk(queue[k]);
                }
            }
        }

        private void walk(int root) {
            open(root);
            for (int guard = 0; deep > 0 && guard < SLOTS * (CELLS + 2); guard++) {
                int slot = path[deep - 1];
                int other = nextOf(slot);
                if (other < 0) {
                    deep--;
                    close(slot);
                } else if (other == slot) {
                    circular[slot] = true;
                } else if (index[other] == 0) {
                    open(other);
                } else if (waiting[other]) {
                    low[slot] = Math.min(low[slot], index[other]);
                }
            }
        }

        private void open(int slot) {
            clock++;
            index[slot] = clock;
            low[slot] = clock;
            waiting[slot] = true;
            pending[pendingCount] = slot;
            pendingCount++;
            path[deep] = slot;
            deep++;
        }

        private void close(int slot) {
            if (deep > 0) {
                int before = path[deep - 1];
                low[before] = Math.min(low[before], low[slot]);
            }
            if (low[slot] < index[slot]) {
                return;
            }
            boolean ring = pending[pendingCount - 1] != slot;
            boolean more = true;
            while (more && pendingCount > 0) {
                pendingCount--;
                int one = pending[pendingCount];
                waiting[one] = false;
                circular[one] = circular[one] || ring;
                order[ordered] = one;
                ordered++;
                more = one != slot;
            }
        }

        /** The next touched formula that it hangs on directly or by names; -1 when there are no more. */
        private int nextOf(int slot) {
            int cell = nextCell[slot];
            while (cell < CELLS) {
                int row = cell / COLUMNS;
                int mask = needOf(slot, row) >> cell % COLUMNS;
                int lastOfRow = row * COLUMNS + COLUMNS;
                while (cell < lastOfRow && mask != 0) {
                    int other = (mask & 1) != 0 ? sheet.holder[cell] : -1;
                    cell++;
                    mask >>= 1;
                    if (other >= 0 && touched[other]) {
                        nextCell[slot] = cell;
                        return other;
                    }
                }
                cell = lastOfRow;
            }
            nextCell[slot] = CELLS;
            return -1;
        }
    }

    /** Operators, and the functions that go element by element as operators do. */
    private static final class Ops {
        private final Store store;

        private Ops(Store store) {
            this.store = store;
        }

        private long spread(Fn fn, long a, long b, long c) {
            long x = Val.lone(a);
            long y = Val.lone(b);
            long z = Val.lone(c);
            if (!Val.isArray(x) && !Val.isArray(y) && !Val.isArray(z)) {
                return one(fn, x, y, z);
            }
            int rows = Math.max(Val.rows(x), Math.max(Val.rows(y), Val.rows(z)));
            int columns = Math.max(Val.columns(x), Math.max(Val.columns(y), Val.columns(z)));
            long out = store.make(rows, columns);
            if (store.stopped) {
                return out;
            }
            int k = Val.first(out);
            for (int i = 0; i < rows; i++) {
                for (int j = 0; j < columns; j++) {
                    long v = one(fn, store.at(x, i, j), store.at(y, i, j), store.at(z, i, j));
                    store.items[k] = v;
                    k++;
                }
            }
            return out;
        }

        private long one(Fn fn, long x, long y, long z) {
            if (fn == Fn.RESCUE) {
                return Val.isError(x) ? y : x;
            }
            if (fn == Fn.PICK) {
                long chosen = Val.toTruth(x);
                return chosen == YES ? y : chosen == NO ? z : chosen;
            }
            if (Val.isError(x)) {
                return x;
            }
            if (Val.isError(y)) {
                return y;
            }
            if (Val.isError(z)) {
                return z;
            }
            switch (fn.group) {
                case NUMBERS:
                    return numbers(fn, Val.toNumber(x), Val.toNumber(y));
                case ORDER:
                    return Val.truth(holds(fn, store.compare(x, y)));
                case JOINED:
                    return store.join(x, y);
                case TEXTS:
                    return texts(fn, store.textOf(x, 0), y, z);
                case SEARCH:
                    return find(store.textOf(x, 0), store.textOf(y, 1));
                default:
                    return opposite(Val.toTruth(x));
            }
        }

        private static long opposite(long truth) {
            return truth == YES ? NO : truth == NO ? YES : truth;
        }

        private static boolean holds(Fn fn, int order) {
            switch (fn) {
                case EQUAL:
                    return order == 0;
                case UNEQUAL:
                    return order != 0;
                case LESS_EQUAL:
                    return order <= 0;
                case MORE_EQUAL:
                    return order >= 0;
                case LESS:
                    return order < 0;
                default:
                    return order > 0;
            }
        }

        private static long numbers(Fn fn, long x, long y) {
            if (Val.isError(x)) {
                return x;
            }
            if (Val.isError(y)) {
                return y;
            }
            long a = Val.load(x);
            long b = Val.load(y);
            switch (fn) {
                case ADD:
                    return Val.number(a + b);
                case SUBTRACT:
                    return Val.number(a - b);
                case MULTIPLY:
                    return product(a, b);
                case DIVIDE:
                    return quotient(a, b);
                case NEGATE:
                    return Val.number(-a);
                case PERCENT:
                    return Val.number(rounded(a, 100) / 100);
                case ABS:
                    return Val.number(a < 0 ? -a : a);
                case INT:
                    return Val.number(Math.floorDiv(a, UNIT) * UNIT);
                case MOD:
                    return b == 0 ? DIV_ERROR : Val.number(Math.floorMod(a, b));
                default:
                    return round(a, b / UNIT);
            }
        }

        /** To a multiple of the step, halves away from 0. */
        private static long rounded(long a, long step) {
            long size = a < 0 ? -a : a;
            long near = (size + step / 2) / step * step;
            return a < 0 ? -near : near;
        }

        /** What would be too great is known before it is multiplied, so that nothing wraps around. */
        private static long product(long a, long b) {
            long most = GREATEST * UNIT + UNIT / 2 - 1;
            long size = a < 0 ? -a : a;
            long other = b < 0 ? -b : b;
            if (other != 0 && size > most / other) {
                return NUM_ERROR;
            }
            return Val.number(rounded(a * b, UNIT) / UNIT);
        }

        private static long quotient(long a, long b) {
            if (b == 0) {
                return DIV_ERROR;
            }
            long size = (a < 0 ? -a : a) * UNIT;
            long by = b < 0 ? -b : b;
            long whole = size / by;
            long rest = size % by;
            whole += rest >= by - rest ? 1 : 0;
            return Val.number(a < 0 == b < 0 ? whole : -whole);
        }

        private static long round(long a, long digits) {
            if (digits < -9 || digits > 4) {
                return NUM_ERROR;
            }
            long step = 1;
            for (long k = digits; k < 4; k++) {
                step *= 10;
            }
            return Val.number(rounded(a, step));
        }

        private long find(long part, long whole) {
            int found = store.find(part, whole);
            return found < 0 ? VALUE_ERROR : Val.number((found + 1) * UNIT);
        }

        private long texts(Fn fn, long text, long y, long z) {
            long length = Val.textLength(text);
            if (fn == Fn.LEN) {
                return Val.number(length * UNIT);
            }
            if (fn == Fn.UPPER) {
                return store.upper(text);
            }
            long second = Val.toNumber(y);
            long third = Val.toNumber(z);
            if (Val.isError(second) || Val.isError(third)) {
                return VALUE_ERROR;
            }
            long n = Val.cut(fn == Fn.MID ? third : second);
            long first = fn == Fn.MID ? Val.cut(second) : 1;
            if (n < 0 || first < 1) {
                return VALUE_ERROR;
            }
            long from = Math.min(first - 1, length);
            long taken = Math.min(n, length - from);
            return store.slice(text, fn == Fn.RIGHT ? length - taken : from, taken);
        }
    }

    /** The functions that take arrays as wholes. */
    private static final class Lists {
        private final Store store;
        private final int[] picked = new int[ARRAY_MOST];
        private final int[] spare = new int[ARRAY_MOST];
        private final long[] sortKey = new long[ARRAY_MOST];
        private int pickedCount;
        private long total;
        private long fractions;
        private int seen;
        private boolean over;
        private long bad;

        private Lists(Store store) {
            this.store = store;
        }

        /** SUM and its like; cells tells which of the n values stand for a cell. */
        private long fold(Fn fn, long[] stack, int base, int n, int cells) {
            total = 0;
            fractions = 0;
            seen = 0;
            over = false;
            bad = EMPTY;
            for (int k = 0; k < n && bad == EMPTY; k++) {
                long v = stack[base + k];
                boolean loose = Val.isArray(v) || (cells >> k & 1) != 0;
                int size = Val.rows(v) * Val.columns(v);
                if (Val.tag(v) == FUNCTION) {
                    bad = CALC_ERROR;
                    size = 0;
                }
                for (int i = 0; i < size && bad == EMPTY; i++) {
                    foldOne(fn, store.item(v, i), loose);
                }
            }
            return bad != EMPTY ? bad : folded(fn);
        }

        private void foldOne(Fn fn, long v, boolean loose) {
            int tag = Val.tag(v);
            if (fn == Fn.COUNTA) {
                seen += tag == NOTHING ? 0 : 1;
                return;
            }
            if (fn == Fn.COUNT && (tag == ERROR || tag == TEXT)) {
                return;
            }
            boolean truths = fn == Fn.AND || fn == Fn.OR;
            boolean counts = tag == NUMBER || tag == ERROR || truths && tag == TRUTH;
            if (loose && !counts) {
                return;
            }
            long needed = truths ? Val.toTruth(v) : Val.toNumber(v);
            if (Val.isError(needed)) {
                bad = needed;
                return;
            }
            seen++;
            gather(fn, Val.load(needed));
        }

        private void gather(Fn fn, long n) {
            switch (fn) {
                case SUM:
                    hold(Val.number(total + n));
                    break;
                case AVERAGE:
                    total += n / UNIT;
                    fractions += n % UNIT;
                    break;
                case PRODUCT:
                    hold(Ops.product(seen == 1 ? UNIT : total, n));
                    break;
                case MIN:
                    total = seen == 1 ? n : Math.min(total, n);
                    break;
                case MAX:
                    total = seen == 1 ? n : Math.max(total, n);
                    break;
                case AND:
                    total += n == 0 ? 1 : 0;
                    break;
                default:
                    total += n == 0 ? 0 : 1;
                    break;
            }
        }

        /** A total that was once too great stays so. */
        private void hold(long v) {
            over = over || Val.isError(v);
            total = over ? 0 : Val.load(v);
        }

        private long folded(Fn fn) {
            switch (fn) {
                case COUNT:
                case COUNTA:
                    return Val.number(seen * UNIT);
                case AND:
                    return Val.truth(total == 0);
                case OR:
                    return Val.truth(total > 0);
                case AVERAGE:
                    return average(seen);
                default:
                    return over ? NUM_ERROR : Val.number(total);
            }
        }

        /** An average is never too great, though its sum may be: whole parts and fractions are summed apart. */
        private long average(long n) {
            if (n == 0) {
                return DIV_ERROR;
            }
            long rest = total % n * UNIT + fractions;
            long below = total / n * UNIT + Math.floorDiv(rest, n);
            long twice = 2 * Math.floorMod(rest, n);
            boolean up = below < 0 ? twice > n : twice >= n;
            return Val.number(up ? below + 1 : below);
        }

        /** Brings what lies on the stack into the shape; answers what is the result at once, else EMPTY. */
        private long tidy(String shape, long[] stack, int base) {
            for (int k = 0; k < shape.length(); k++) {
                if (shape.charAt(k) == 'x') {
                    stack[base + k] = store.single(stack[base + k]);
                }
                long v = stack[base + k];
                if (Val.isError(v)) {
                    return v;
                }
                if (Val.tag(v) == FUNCTION && shape.charAt(k) != 'f') {
                    return CALC_ERROR;
                }
            }
            return EMPTY;
        }

        private long table(Fn fn, long[] stack, int base) {
            if (fn == Fn.VLOOKUP && isBeyond(stack[base + 1], stack[base + 2])) {
                return REF_ERROR;
            }
            long early = tidy(fn.shape, stack, base);
            if (early != EMPTY) {
                return early;
            }
            long a = stack[base];
            switch (fn) {
                case ROWS_OF:
                    return Val.number(Val.rows(a) * UNIT);
                case COLUMNS_OF:
                    return Val.number(Val.columns(a) * UNIT);
                case TRANSPOSE:
                    return transpose(a);
                case INDEX:
                    return indexed(a, stack[base + 1], stack[base + 2]);
                case MATCH:
                    return match(a, stack[base + 1]);
                case SEQUENCE:
                    return sequence(stack, base);
                case SORT:
                    sort(a);
                    return pickedRows(a);
                case UNIQUE:
                    unique(a);
                    return pickedRows(a);
                case FILTER:
                    return filter(a, stack[base + 1]);
                case VLOOKUP:
                    return lookUp(a, stack[base + 1], stack[base + 2]);
                default:
                    return sumIf(a, stack[base + 1], stack[base + 2]);
            }
        }

        private long transpose(long a) {
            int rows = Val.rows(a);
            int columns = Val.columns(a);
            long out = store.make(columns, rows);
            if (store.stopped) {
                return out;
            }
            for (int i = 0; i < rows; i++) {
                for (int j = 0; j < columns; j++) {
                    store.items[Val.first(out) + j * rows + i] = store.at(a, i, j);
                }
            }
            return out;
        }

        private long indexed(long a, long r, long c) {
            long row = Val.toNumber(r);
            long column = Val.toNumber(c);
            if (Val.isError(row) || Val.isError(column)) {
                return VALUE_ERROR;
            }
            long i = Val.cut(row);
            long j = Val.cut(column);
            i = i == 0 && Val.rows(a) == 1 ? 1 : i;
            j = j == 0 && Val.columns(a) == 1 ? 1 : j;
            if (i < 1 || i > Val.rows(a) || j < 1 || j > Val.columns(a)) {
                return REF_ERROR;
            }
            return store.at(a, (int) i - 1, (int) j - 1);
        }

        private boolean same(long x, long y) {
            return !Val.isError(y) && store.compare(x, y) == 0;
        }

        private long match(long x, long a) {
            int size = Val.rows(a) * Val.columns(a);
            if (Val.rows(a) == 1 || Val.columns(a) == 1) {
                for (int k = 0; k < size; k++) {
                    if (same(x, store.item(a, k))) {
                        return Val.number((k + 1) * UNIT);
                    }
                }
            }
            return NA_ERROR;
        }

        private long sequence(long[] stack, int base) {
            for (int k = 0; k < 4; k++) {
                stack[base + k] = Val.toNumber(stack[base + k]);
                if (Val.isError(stack[base + k])) {
                    return VALUE_ERROR;
                }
            }
            long rows = Val.cut(stack[base]);
            long columns = Val.cut(stack[base + 1]);
            if (rows < 1 || columns < 1) {
                return CALC_ERROR;
            }
            long out = store.make(rows, columns);
            if (store.stopped) {
                return out;
            }
            long start = Val.load(stack[base + 2]);
            long by = Val.load(stack[base + 3]);
            for (int k = 0; k < rows * columns; k++) {
                store.items[Val.first(out) + k] = Val.number(start + k * by);
            }
            return out;
        }

        /** The rows of an array that have been picked; of what is no array that itself. */
        private long pickedRows(long a) {
            if (!Val.isArray(a)) {
                return a;
            }
            int columns = Val.columns(a);
            long out = store.make(pickedCount, columns);
            if (store.stopped) {
                return out;
            }
            for (int k = 0; k < pickedCount; k++) {
                System.arraycopy(store.items, Val.first(a) + picked[k] * columns,
                        store.items, Val.first(out) + k * columns, columns);
            }
            return out;
        }

        private void sort(long a) {
            pickedCount = Val.rows(a);
            for (int k = 0; k < pickedCount; k++) {
                long first = store.item(a, k * Val.columns(a));
                sortKey[k] = first == EMPTY ? ZERO : first;
                picked[k] = k;
            }
            for (int width = 1; width < pickedCount; width *= 2) {
                for (int from = 0; from < pickedCount; from += 2 * width) {
                    merge(from, Math.min(from + width, pickedCount), Math.min(from + 2 * width, pickedCount));
                }
                System.arraycopy(spare, 0, picked, 0, pickedCount);
            }
        }

        private void merge(int from, int middle, int to) {
            int left = from;
            int right = middle;
            for (int k = from; k < to; k++) {
                boolean takesRight = left >= middle;
                if (left < middle && right < to) {
                    long x = sortKey[picked[right]];
                    takesRight = !Val.isError(x) && store.compare(x, sortKey[picked[left]]) < 0;
                }
                spare[k] = takesRight ? picked[right] : picked[left];
                right += takesRight ? 1 : 0;
                left += takesRight ? 0 : 1;
            }
        }

        private void unique(long a) {
            int rows = Val.rows(a);
            pickedCount = 0;
            for (int row = 0; row < rows; row++) {
                boolean fresh = true;
                for (int k = 0; k < pickedCount && fresh; k++) {
                    fresh = !sameRows(a, picked[k], row);
                }
                if (fresh) {
                    picked[pickedCount] = row;
                    pickedCount++;
                }
            }
        }

        private boolean sameRows(long a, int row, int other) {
            int columns = Val.columns(a);
            for (int j = 0; j < columns; j++) {
                long x = store.item(a, row * columns + j);
                long y = store.item(a, other * columns + j);
                boolean error = Val.isError(x) || Val.isError(y);
                if (x != y && (error || store.compare(x, y) != 0)) {
                    return false;
                }
            }
            return true;
        }

        private long filter(long a, long keep) {
            int rows = Val.rows(a);
            if (Val.rows(keep) != rows || Val.columns(keep) != 1) {
                return VALUE_ERROR;
            }
            pickedCount = 0;
            for (int row = 0; row < rows; row++) {
                long truth = Val.toTruth(store.item(keep, row));
                if (Val.isError(truth)) {
                    return truth;
                }
                if (truth == YES) {
                    picked[pickedCount] = row;
                    pickedCount++;
                }
            }
            return pickedCount == 0 ? CALC_ERROR : pickedRows(a);
        }

        /** Whether n is none of a's columns, which goes before all errors but those that leave a or n unknown. */
        private boolean isBeyond(long a, long n) {
            long number = Val.toNumber(store.single(n));
            if (Val.isError(number) || Val.isError(Val.lone(a))) {
                return false;
            }
            return Val.cut(number) < 1 || Val.cut(number) > Val.columns(a);
        }

        /** What is beyond a's columns has been seen to before. */
        private long lookUp(long x, long a, long n) {
            long number = Val.toNumber(n);
            if (Val.isError(number)) {
                return number;
            }
            int column = (int) Val.cut(number) - 1;
            for (int row = 0; row < Val.rows(a); row++) {
                if (same(x, store.item(a, row * Val.columns(a)))) {
                    return store.item(a, row * Val.columns(a) + column);
                }
            }
            return NA_ERROR;
        }

        private long sumIf(long a, long x, long numbers) {
            if (Val.rows(a) != Val.rows(numbers) || Val.columns(a) != Val.columns(numbers)) {
                return VALUE_ERROR;
            }
            total = 0;
            over = false;
            for (int k = 0; k < Val.rows(a) * Val.columns(a); k++) {
                long v = store.item(numbers, k);
                if (Val.tag(v) == NUMBER && same(x, store.item(a, k))) {
                    hold(Val.number(total + Val.load(v)));
                }
            }
            return over ? NUM_ERROR : Val.number(total);
        }
    }

    /** Works out the steps that the reader has made of a formula. */
    private static final class Machine {
        private final Store store;
        private final Sheet sheet;
        private final Reader reader;
        private final Ops ops;
        private final Lists lists;
        private final long[] stack = new long[4096];
        private int height;
        private int at;
        private int scope;
        private long[] scopeKey = new long[256];
        private long[] scopeValue = new long[256];
        private int[] scopeOuter = new int[256];
        private int scopes;
        private final boolean[] known = new boolean[NAMES_MOST];
        private final long[] nameValue = new long[NAMES_MOST];
        private final int[] nameDepth = new int[NAMES_MOST];
        private final int[][] nameCost = new int[NAMES_MOST][LIMITS];

        private Machine(Store store, Sheet sheet, Reader reader) {
            this.store = store;
            this.sheet = sheet;
            this.reader = reader;
            ops = new Ops(store);
            lists = new Lists(store);
        }

        private void begin() {
            store.restart();
            height = 0;
            scopes = 0;
            for (int k = 0; k < NAMES_MOST; k++) {
                known[k] = false;
            }
        }

        private void push(long v) {
            if (height < stack.length) {
                stack[height] = v;
                height++;
            } else {
                store.stopped = true;
            }
        }

        private long pop() {
            height -= height > 0 ? 1 : 0;
            return stack[height];
        }

        /** Steps only ever lead on, so there are no more of them than lie between. */
        private long run(int from, int to, int outer) {
            int backAt = at;
            int backScope = scope;
            at = from;
            scope = outer;
            for (int guard = from; guard < to && at < to && !store.stopped; guard++) {
                int here = at;
                at++;
                perform(here);
            }
            at = backAt;
            scope = backScope;
            return pop();
        }

        private void perform(int here) {
            int small = reader.arg[here];
            switch (reader.step[here]) {
                case PUSH:
                    push(reader.big[here]);
                    break;
                case PUSH_CELL:
                    push(sheet.values[small]);
                    break;
                case PUSH_RANGE:
                    push(range(small, (int) reader.big[here] >> 12, (int) reader.big[here] & 4095));
                    break;
                case PUSH_BRACES:
                    push(braces(small >> 12, small & 4095));
                    break;
                case PUSH_WORD:
                    push(meaning(reader.big[here]));
                    break;
                case APPLY:
                    apply(reader.what[here], small & 255, small >> 8);
                    break;
                case CALL:
                    callBelow(small);
                    break;
                case BIND:
                    scope = bind(scope, reader.big[here], pop());
                    break;
                case UNBIND:
                    for (int k = 0; k < small && scope >= 0; k++) {
                        scope = scopeOuter[scope];
                    }
                    break;
                case LAMBDA:
                    push(Val.function(here, scope));
                    at = small & 65535;
                    break;
                default:
                    branch(here, small);
                    break;
            }
        }

        /** A single condition leaves a mark and one branch is gone through; an array stays, and all are. */
        private void branch(int here, int small) {
            boolean marked = height > 1 && stack[height - 2] == MARK;
            switch (reader.step[here]) {
                case IF_TEST:
                    testTruth(small, reader.arg[small] + 1);
                    break;
                case IF_ELSE:
                    if (marked) {
                        unmark();
                        at = small + 1;
                    }
                    break;
                case IF_END:
                    if (marked) {
                        unmark();
                    } else {
                        apply(Fn.PICK, 3, 0);
                    }
                    break;
                case ERROR_TEST:
                    testError(small + 1);
                    break;
                case ERROR_END:
                    if (marked) {
                        unmark();
                    } else {
                        apply(Fn.RESCUE, 2, 0);
                    }
                    break;
                case CHOOSE:
                    choose(here, small, (int) reader.big[here]);
                    break;
                default:
                    at = small;
                    break;
            }
        }

        private void unmark() {
            long chosen = pop();
            pop();
            push(chosen);
        }

        private void testTruth(int middle, int behind) {
            long v = pop();
            if (Val.isArray(v)) {
                push(v);
                return;
            }
            long truth = Val.toTruth(Val.lone(v));
            if (Val.isError(truth)) {
                push(truth);
                at = behind;
                return;
            }
            push(MARK);
            at = truth == YES ? at : middle + 1;
        }

        private void testError(int behind) {
            long v = pop();
            push(Val.isError(v) ? MARK : v);
            if (!Val.isError(v) && !Val.isArray(v)) {
                at = behind;
            }
        }

        private void choose(int here, int choices, int behind) {
            long v = pop();
            long n = Val.isArray(v) ? VALUE_ERROR : Val.toNumber(Val.lone(v));
            long which = Val.isError(n) ? 0 : Val.cut(n);
            if (which >= 1 && which <= choices) {
                at = reader.arg[here + (int) which];
            } else {
                push(Val.isError(n) ? n : VALUE_ERROR);
                at = behind;
            }
        }

        private long range(int corner, int high, int wide) {
            long out = store.make(high, wide);
            if (store.stopped) {
                return out;
            }
            for (int i = 0; i < high; i++) {
                System.arraycopy(sheet.values, corner + i * COLUMNS, store.items, Val.first(out) + i * wide, wide);
            }
            return out;
        }

        private long braces(int rows, int columns) {
            int size = rows * columns;
            long out = store.make(rows, columns);
            if (store.stopped || size > height) {
                return out;
            }
            height -= size;
            System.arraycopy(stack, height, store.items, Val.first(out), size);
            return out;
        }

        private void apply(Fn fn, int n, int cells) {
            int base = height - n;
            if (base < 0) {
                return;
            }
            long v;
            switch (fn.group) {
                case FOLD:
                    v = lists.fold(fn, stack, base, n, cells);
                    break;
                case TABLE:
                    v = lists.table(fn, stack, base);
                    break;
                case CALLING:
                    v = calling(fn, base);
                    break;
                default:
                    v = ops.spread(fn, stack[base], n > 1 ? stack[base + 1] : EMPTY, n > 2 ? stack[base + 2] : EMPTY);
                    break;
            }
            height = base;
            push(v);
        }

        private long meaning(long key) {
            int inner = scope;
            for (int guard = 0; inner >= 0 && guard < MANY; guard++) {
                if (scopeKey[inner] == key) {
                    long v = scopeValue[inner];
                    store.use(ELEMENTS, Val.isArray(v) ? Val.rows(v) * Val.columns(v) : 0);
                    return v;
                }
                inner = scopeOuter[inner];
            }
            int k = sheet.nameOf(key);
            return k < 0 ? NAME_ERROR : nameMeaning(k);
        }

        /**
         * Without words around it a name is the same each time: what it took is taken again without the work,
         * or names of names of names would never end.
         */
        private long nameMeaning(int k) {
            store.depth++;
            store.reach(store.depth + (known[k] ? nameDepth[k] : 0));
            int[] cost = nameCost[k];
            if (known[k]) {
                for (int what = 0; what < LIMITS; what++) {
                    store.use(what, cost[what]);
                }
            } else if (!store.stopped) {
                int outerPeak = store.peak;
                store.peak = store.depth;
                System.arraycopy(store.used, 0, cost, 0, LIMITS);
                nameValue[k] = run(Reader.startOf(k + 1), reader.ends[k + 1], -1);
                for (int what = 0; what < LIMITS; what++) {
                    cost[what] = store.used[what] - cost[what];
                }
                nameDepth[k] = store.peak - store.depth;
                store.peak = Math.max(outerPeak, store.peak);
                known[k] = true;
            }
            store.depth--;
            return nameValue[k];
        }

        private int bind(int outer, long key, long v) {
            store.use(GIVEN, Val.isArray(v) ? Val.rows(v) * Val.columns(v) : 0);
            if (scopes == scopeKey.length) {
                scopeKey = Arrays.copyOf(scopeKey, scopes * 2);
                scopeValue = Arrays.copyOf(scopeValue, scopes * 2);
                scopeOuter = Arrays.copyOf(scopeOuter, scopes * 2);
            }
            scopeKey[scopes] = key;
            scopeValue[scopes] = v;
            scopeOuter[scopes] = outer;
            scopes++;
            return scopes - 1;
        }

        private void callBelow(int n) {
            int base = height - n - 1;
            if (base < 0) {
                return;
            }
            long f = stack[base];
            long v = Val.isError(f) ? f : VALUE_ERROR;
            if (Val.tag(f) == FUNCTION) {
                v = call(f, n);
            }
            height = base;
            push(v);
        }

        /** The n topmost values of the stack are what the function gets. */
        private long call(long f, int n) {
            int lambda = Val.step(f);
            int words = reader.arg[lambda] >> 16;
            height -= n;
            if (words != n) {
                return VALUE_ERROR;
            }
            store.use(CALLS, 1);
            store.depth++;
            store.reach(store.depth);
            int inner = Val.scope(f);
            for (int k = 0; k < n; k++) {
                inner = bind(inner, reader.big[lambda + 1 + k], stack[height + k]);
            }
            long v = store.stopped ? CALC_ERROR : run(lambda + 1 + n, reader.arg[lambda] & 65535, inner);
            store.depth--;
            return v;
        }

        private long calling(Fn fn, int base) {
            long early = lists.tidy(fn.shape, stack, base);
            if (early != EMPTY) {
                return early;
            }
            long f = stack[base + fn.shape.length() - 1];
            boolean callable = Val.tag(f) == FUNCTION;
            if (fn == Fn.MAKEARRAY) {
                return makeArray(stack[base], stack[base + 1], f);
            }
            if (!callable) {
                return VALUE_ERROR;
            }
            return fn == Fn.MAP ? map(stack[base], f) : reduce(stack[base], stack[base + 1], f);
        }

        private long map(long a, long f) {
            if (!Val.isArray(a)) {
                push(a);
                return store.single(call(f, 1));
            }
            int size = Val.rows(a) * Val.columns(a);
            long out = store.make(Val.rows(a), Val.columns(a));
            for (int k = 0; k < size && !store.stopped; k++) {
                push(store.item(a, k));
                long v = store.single(call(f, 1));
                store.items[Val.first(out) + k] = v;
            }
            return out;
        }

        private long reduce(long start, long a, long f) {
            long soFar = start;
            int size = Val.rows(a) * Val.columns(a);
            for (int k = 0; k < size && !store.stopped; k++) {
                push(soFar);
                push(store.item(a, k));
                soFar = call(f, 2);
            }
            return soFar;
        }

        private long makeArray(long r, long c, long f) {
            long rows = Val.toNumber(r);
            long columns = Val.toNumber(c);
            if (Val.isError(rows) || Val.isError(columns)) {
                return VALUE_ERROR;
            }
            if (Val.cut(rows) < 1 || Val.cut(columns) < 1) {
                return CALC_ERROR;
            }
            if (Val.tag(f) != FUNCTION) {
                return VALUE_ERROR;
            }
            long out = store.make(Val.cut(rows), Val.cut(columns));
            int size = Val.rows(out) * Val.columns(out);
            for (int k = 0; k < size && !store.stopped; k++) {
                push(Val.number((k / Val.columns(out) + 1) * UNIT));
                push(Val.number((k % Val.columns(out) + 1) * UNIT));
                long v = store.single(call(f, 2));
                store.items[Val.first(out) + k] = v;
            }
            return out;
        }
    }
}
