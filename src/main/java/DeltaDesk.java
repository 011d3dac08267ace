/** Tells what is new in one row of octets beside an older one, as steps that make the new out of the old. */
public final class DeltaDesk {
    private static final int OLD = 0;
    private static final int NEW = 1;
    private static final int LONGEST_ROW = 1200;

    private static final int SHORTEST_BLOCK = 4;
    private static final int LONGEST_BLOCK = 256;
    private static final int MOST_BLOCKS = LONGEST_ROW / SHORTEST_BLOCK;
    private static final int NO_BLOCK = -1;
    private static final int NO_PLACE = -1;

    private static final int LOWEST_16_BITS = 65535;
    private static final int STRONG_BITS = 64;
    private static final long STRONG_AT_FIRST = -3750763034362895579L;
    private static final long STRONG_FACTOR = 1099511628211L;

    private static final int COPY_TOKEN = 0;
    private static final int NEW_TOKEN = 1;
    private static final int COPY_COST = 5;
    private static final int NEW_COST = 3;

    private final Row oldRow;
    private final Row newRow;
    // The rows may change between delta() and patch(), so what the delta makes is kept from the start.
    private final Row made;
    private final Blocks blocks;
    // Only the last block may be shorter than the others, so two windows serve all blocks.
    private final Window usualWindow;
    private final Window lastWindow;
    private final Tokens tokens;
    private boolean hasDelta;

    public DeltaDesk() {
        oldRow = new Row();
        newRow = new Row();
        made = new Row();
        blocks = new Blocks(oldRow);
        usualWindow = new Window(newRow);
        lastWindow = new Window(newRow);
        tokens = new Tokens();
        hasDelta = false;
    }

    public void size(int r, int n) throws IllegalArgumentException {
        checkRow(r);
        if (n < 0 || n > LONGEST_ROW) {
            throw new IllegalArgumentException("a row has 0 to 1200 octets");
        }
        row(r).resize(n);
    }

    public void put(int r, int at, long v) throws IllegalArgumentException, IndexOutOfBoundsException {
        checkRow(r);
        checkOctet(row(r), at);
        row(r).write(at, v);
    }

    public void move(int r, int from, int t, int to, int n)
            throws IllegalArgumentException, IndexOutOfBoundsException {
        checkRow(r);
        checkRow(t);
        checkRange(row(r), from, n);
        checkRange(row(t), to, n);
        // System.arraycopy keeps the octets as they were even where both ranges overlap.
        System.arraycopy(row(r).octets, from, row(t).octets, to, n);
    }

    public int octet(int r, int k) throws IllegalArgumentException, IndexOutOfBoundsException {
        checkRow(r);
        checkOctet(row(r), k);
        return row(r).octets[k];
    }

    public int weak(int r, int from, int n) throws IllegalArgumentException, IndexOutOfBoundsException {
        checkRow(r);
        checkRange(row(r), from, n);
        return row(r).weakSum(from, n);
    }

    public long strong(int r, int from, int n) throws IllegalArgumentException, IndexOutOfBoundsException {
        checkRow(r);
        checkRange(row(r), from, n);
        return row(r).strongSum(from, n);
    }

    public int find(int s, int bits, int block, int from)
            throws IllegalArgumentException, IndexOutOfBoundsException {
        checkBlocks(s, bits);
        if (block < 0 || block >= blockCount(oldRow.length, s)) {
            throw new IndexOutOfBoundsException("there is no such block");
        }
        if (from < 0) {
            throw new IndexOutOfBoundsException("the place is below 0");
        }
        return firstPlace(block * s, Math.min(s, oldRow.length - block * s), strongMask(bits), from);
    }

    public int delta(int s, int bits) throws IllegalArgumentException {
        checkBlocks(s, bits);
        blocks.cut(s);
        usualWindow.open(s);
        lastWindow.open(blocks.lastSize);
        tokens.clear();
        made.length = 0;
        makeDelta(strongMask(bits));
        hasDelta = true;
        return tokens.count;
    }

    public int token(int k, int what) throws IllegalArgumentException, IndexOutOfBoundsException {
        if (what < 0 || what > 2) {
            throw new IllegalArgumentException("a token tells 0, 1 or 2");
        }
        if (k < 0 || k >= tokens.count) {
            throw new IndexOutOfBoundsException("there is no such token");
        }
        if (what == 0) {
            return tokens.kinds[k];
        }
        return what == 1 ? tokens.firsts[k] : tokens.lengths[k];
    }

    public int sent() {
        int sum = 0;
        for (int k = 0; k < tokens.count; k++) {
            sum += tokens.kinds[k] == COPY_TOKEN ? COPY_COST : NEW_COST + tokens.lengths[k];
        }
        return sum;
    }

    public int patch() {
        if (!hasDelta) {
            return 0;
        }
        oldRow.length = 0;
        oldRow.append(made, 0, made.length);
        return oldRow.length;
    }

    public boolean same() {
        if (oldRow.length != newRow.length) {
            return false;
        }
        for (int k = 0; k < oldRow.length; k++) {
            if (oldRow.octets[k] != newRow.octets[k]) {
                return false;
            }
        }
        return true;
    }

    public int count(int what) throws IllegalArgumentException {
        if (what < 0 || what > 2) {
            throw new IllegalArgumentException("counts are 0, 1 and 2");
        }
        if (what == 0) {
            return oldRow.length;
        }
        return what == 1 ? newRow.length : tokens.count;
    }

    private Row row(int r) {
        return r == OLD ? oldRow : newRow;
    }

    private static void checkRow(int r) {
        if (r != OLD && r != NEW) {
            throw new IllegalArgumentException("rows are 0 and 1");
        }
    }

    private static void checkOctet(Row row, int k) {
        if (k < 0 || k >= row.length) {
            throw new IndexOutOfBoundsException("there is no such octet");
        }
    }

    private static void checkRange(Row row, int from, int n) {
        // The length minus n cannot wrap once n is known not to be below 0; from + n could.
        if (from < 0 || n < 0 || from > row.length - n) {
            throw new IndexOutOfBoundsException("there are not so many octets");
        }
    }

    private static void checkBlocks(int s, int bits) {
        if (s < SHORTEST_BLOCK || s > LONGEST_BLOCK) {
            throw new IllegalArgumentException("a block has 4 to 256 octets");
        }
        if (bits < 0 || bits > STRONG_BITS) {
            throw new IllegalArgumentException("bits are 0 to 64");
        }
    }

    private static int blockCount(int length, int s) {
        return (length + s - 1) / s;
    }

    private static long strongMask(int bits) {
        // Java shifts a long by the lowest six bits of the distance, so 64 would shift by none.
        return bits == STRONG_BITS ? -1L : (1L << bits) - 1L;
    }

    private int firstPlace(int start, int n, long mask, int from) {
        int weak = oldRow.weakSum(start, n);
        long strong = oldRow.strongSum(start, n);
        usualWindow.open(n);
        for (int place = from; place <= newRow.length - n; place++) {
            usualWindow.moveTo(place);
            if (usualWindow.shows(weak, strong, mask)) {
                return place;
            }
        }
        return NO_PLACE;
    }

    private void makeDelta(long mask) {
        int place = 0;
        int before = NO_BLOCK;
        // Each step goes on by at least one octet, so there are no more steps than octets.
        for (int step = 0; step < LONGEST_ROW && place < newRow.length; step++) {
            int block = blockAt(place, before, mask);
            if (block == NO_BLOCK) {
                tokens.add(NEW_TOKEN, place);
                made.append(newRow, place, 1);
                place++;
            } else {
                tokens.add(COPY_TOKEN, block);
                made.append(oldRow, blocks.start(block), blocks.length(block));
                place += blocks.length(block);
            }
            before = block;
        }
    }

    private int blockAt(int place, int before, long mask) {
        usualWindow.moveTo(place);
        lastWindow.moveTo(place);
        if (before != NO_BLOCK && before + 1 < blocks.count && fits(before + 1, mask)) {
            return before + 1;
        }
        for (int block = 0; block < blocks.count; block++) {
            if (fits(block, mask)) {
                return block;
            }
        }
        return NO_BLOCK;
    }

    private boolean fits(int block, long mask) {
        Window window = block == blocks.count - 1 ? lastWindow : usualWindow;
        return window.shows(blocks.weaks[block], blocks.strongs[block], mask);
    }

    /** A row of octets, each 0 to 255; callers look at places before they name them. */
    private static final class Row {
        private final int[] octets;
        private int length;

        private Row() {
            octets = new int[LONGEST_ROW];
            length = 0;
        }

        private void resize(int n) {
            // Octets that an earlier, longer row left behind must not come back.
            for (int k = length; k < n; k++) {
                octets[k] = 0;
            }
            length = n;
        }

        private void write(int at, long v) {
            for (int i = 0; i < 8 && at + i < length; i++) {
                octets[at + i] = (int) (v >>> (56 - 8 * i)) & 255;
            }
        }

        private void append(Row other, int from, int n) {
            System.arraycopy(other.octets, from, octets, length, n);
            length += n;
        }

        private int weakSum(int from, int n) {
            int a = 0;
            int b = 0;
            for (int i = 0; i < n; i++) {
                a += octets[from + i];
                b += (n - i) * octets[from + i];
            }
            return joinWeak(a, b);
        }

        private static int joinWeak(int a, int b) {
            return (a & LOWEST_16_BITS) + 65536 * (b & LOWEST_16_BITS);
        }

        private long strongSum(int from, int n) {
            long sum = STRONG_AT_FIRST;
            for (int i = 0; i < n; i++) {
                sum = (sum ^ octets[from + i]) * STRONG_FACTOR;
            }
            return sum;
        }
    }

    /** The blocks of a row with their sums, as the row was when it was cut. */
    private static final class Blocks {
        private final Row row;
        private final int[] weaks;
        private final long[] strongs;
        private int usualSize;
        private int lastSize;
        private int count;

        private Blocks(Row row) {
            this.row = row;
            weaks = new int[MOST_BLOCKS];
            strongs = new long[MOST_BLOCKS];
            usualSize = SHORTEST_BLOCK;
            lastSize = 0;
            count = 0;
        }

        private void cut(int s) {
            usualSize = s;
            count = blockCount(row.length, s);
            lastSize = count == 0 ? 0 : row.length - start(count - 1);
            for (int block = 0; block < count; block++) {
                weaks[block] = row.weakSum(start(block), length(block));
                strongs[block] = row.strongSum(start(block), length(block));
            }
        }

        private int start(int block) {
            return block * usualSize;
        }

        private int length(int block) {
            return block == count - 1 ? lastSize : usualSize;
        }
    }

    /** So many octets of a row at a place that moves, with their sums. */
    private static final class Window {
        private final Row row;
        private int size;
        private int place;
        private boolean inside;
        private int a;
        private int b;
        private int weakHere;
        private long strongHere;
        private boolean knowsStrong;

        private Window(Row row) {
            this.row = row;
            size = 0;
            place = NO_PLACE;
            inside = false;
            knowsStrong = false;
        }

        private void open(int n) {
            size = n;
            place = NO_PLACE;
            inside = false;
            knowsStrong = false;
        }

        private void moveTo(int next) {
            boolean rolls = inside && next == place + 1;
            inside = next <= row.length - size;
            if (inside && rolls) {
                roll();
            } else if (inside) {
                sumAfresh(next);
            }
            weakHere = Row.joinWeak(a, b);
            place = next;
            knowsStrong = false;
        }

        private void roll() {
            int leaving = row.octets[place];
            int entering = row.octets[place + size];
            a += entering - leaving;
            b += a - size * leaving;
        }

        private void sumAfresh(int at) {
            a = 0;
            b = 0;
            for (int i = 0; i < size; i++) {
                a += row.octets[at + i];
                b += a;
            }
        }

        private boolean shows(int weak, long strong, long mask) {
            return inside && weakHere == weak && ((strongSumHere() ^ strong) & mask) == 0L;
        }

        // Most places differ by their weak sum already, so the strong one is made only when asked for.
        private long strongSumHere() {
            if (!knowsStrong) {
                strongHere = row.strongSum(place, size);
                knowsStrong = true;
            }
            return strongHere;
        }
    }

    /** The tokens of a delta; each covers at least one octet, so there are no more than a row has. */
    private static final class Tokens {
        private final int[] kinds;
        private final int[] firsts;
        private final int[] lengths;
        private int count;

        private Tokens() {
            kinds = new int[LONGEST_ROW];
            firsts = new int[LONGEST_ROW];
            lengths = new int[LONGEST_ROW];
            count = 0;
        }

        private void clear() {
            count = 0;
        }

        private void add(int kind, int number) {
            if (goesOn(kind, number)) {
                lengths[count - 1]++;
            } else {
                kinds[count] = kind;
                firsts[count] = number;
                lengths[count] = 1;
                count++;
            }
        }

        private boolean goesOn(int kind, int number) {
            return count > 0
                    && kinds[count - 1] == kind
                    && firsts[count - 1] + lengths[count - 1] == number;
        }
    }
}
