import java.math.BigInteger;
import java.util.ArrayList;
import java.util.Arrays;
import java.util.List;
import java.util.Random;

/** Long runs of calls beside a second program that does what the document says, word by word and slowly. */
public final class ModelTest {
    private static final int RUNS = 1500;
    // Nothing is promised of an object behind its 512th call; one step makes no more calls than are kept back.
    private static final int CALLS = 512;
    private static final int KEPT_BACK = 40;
    private static final int TOKENS_LOOKED_AT = 10;
    private static final Checks checks = new Checks();

    private final Random random;
    private final int most;
    private final int kinds;
    private final DeltaDesk desk = new DeltaDesk();
    private int[][] rows = {{}, {}};
    private List<int[]> tokens = new ArrayList<>();
    private int[] made = null;
    private String told;
    private int calls = 0;

    public static void main(String[] args) {
        for (int run = 0; run < RUNS; run++) {
            new ModelTest(run).run();
        }
        checks.end();
    }

    /** Few kinds of octets make blocks that are alike; short rows make edges that are met often. */
    private ModelTest(int run) {
        random = new Random(run);
        most = run % 10 == 0 ? 1200 : run % 3 == 0 ? 90 : 24;
        kinds = run % 4 == 0 ? 256 : 1 + run % 4;
    }

    private void run() {
        while (calls < CALLS - KEPT_BACK) {
            int which = random.nextInt(16);
            if (which < 5) {
                change(which);
            } else {
                ask(which);
            }
        }
        checkRows();
        checks.holds(calls + " calls are promised", calls <= CALLS);
    }

    private int rowNumber() {
        return random.nextInt(40) == 0 ? random.nextInt(5) - 2 : random.nextInt(2);
    }

    private int near(int limit) {
        return random.nextInt(60) == 0 ? random.nextInt() : random.nextInt(limit + 3) - 1;
    }

    private int blockSize() {
        return random.nextInt(30) == 0 ? 2 + random.nextInt(300) : 4 + random.nextInt(random.nextBoolean() ? 3 : 12);
    }

    private int bits() {
        int[] edges = {0, 0, 1, 2, 63, 64, 64, 65, -1};
        return random.nextInt(3) == 0 ? random.nextInt(68) - 1 : edges[random.nextInt(edges.length)];
    }

    private long octets() {
        long v = 0;
        for (int i = 0; i < 8; i++) {
            v = v << 8 | (kinds == 256 ? random.nextInt(256) : random.nextInt(kinds) * 100);
        }
        return v;
    }

    private void change(int which) {
        int r = rowNumber();
        int t = rowNumber();
        int from = near(most);
        int to = near(most);
        if (which == 0 && random.nextInt(3) == 0) {
            int n = random.nextInt(50) == 0 ? near(1202) : near(most);
            told = "size(" + r + ", " + n + ")";
            answers(modelSize(r, n), 0, () -> { desk.size(r, n); return 0; });
        } else if (which < 3) {
            long v = octets();
            told = "put(" + r + ", " + from + ", " + v + ")";
            answers(modelPut(r, from, v), 0, () -> { desk.put(r, from, v); return 0; });
        } else {
            int n = random.nextBoolean() ? near(most / 3) : near(8);
            told = "move(" + r + ", " + from + ", " + t + ", " + to + ", " + n + ")";
            answers(modelMove(r, from, t, to, n), 0, () -> { desk.move(r, from, t, to, n); return 0; });
        }
    }

    private void ask(int which) {
        int r = rowNumber();
        int from = near(most);
        int n = near(most);
        int what = random.nextInt(5) - 1;
        int s = blockSize();
        int bits = bits();
        switch (which) {
            case 5 -> {
                told = "octet(" + r + ", " + from + ")";
                String wrong = badRow(r) ? "IAE" : outside(from, 1, rows[r].length) ? "IOOBE" : "";
                answers(wrong, wrong.isEmpty() ? rows[r][from] : 0, () -> desk.octet(r, from));
            }
            case 6 -> {
                told = "weak(" + r + ", " + from + ", " + n + ")";
                String wrong = badRow(r) ? "IAE" : outside(from, n, rows[r].length) ? "IOOBE" : "";
                answers(wrong, wrong.isEmpty() ? weak(rows[r], from, n) : 0, () -> desk.weak(r, from, n));
            }
            case 7 -> {
                told = "strong(" + r + ", " + from + ", " + n + ")";
                String wrong = badRow(r) ? "IAE" : outside(from, n, rows[r].length) ? "IOOBE" : "";
                answers(wrong, wrong.isEmpty() ? strong(rows[r], from, n) : 0, () -> desk.strong(r, from, n));
            }
            case 8, 9 -> askFind(s, bits, near(most / 4), near(most / 2));
            case 10, 11 -> {
                told = "delta(" + s + ", " + bits + ")";
                String wrong = badSums(s, bits) ? "IAE" : "";
                if (wrong.isEmpty()) {
                    modelDelta(s, bits);
                }
                answers(wrong, tokens.size(), () -> desk.delta(s, bits));
                checkTokens();
            }
            case 12 -> {
                int k = near(tokens.size());
                told = "token(" + k + ", " + what + ")";
                String wrong = what < 0 || what > 2 ? "IAE" : outside(k, 1, tokens.size()) ? "IOOBE" : "";
                answers(wrong, wrong.isEmpty() ? tokens.get(k)[what] : 0, () -> desk.token(k, what));
            }
            case 13 -> askPatch();
            case 14 -> {
                told = "same()";
                answers("", Arrays.equals(rows[0], rows[1]) ? 1 : 0, () -> desk.same() ? 1 : 0);
            }
            default -> {
                told = "count(" + what + ")";
                String wrong = what < 0 || what > 2 ? "IAE" : "";
                int want = what == 2 ? tokens.size() : wrong.isEmpty() ? rows[what].length : 0;
                answers(wrong, want, () -> desk.count(what));
            }
        }
    }

    private void askFind(int s, int bits, int block, int from) {
        told = "find(" + s + ", " + bits + ", " + block + ", " + from + ")";
        String wrong = badSums(s, bits) ? "IAE" : "";
        int want = -1;
        if (wrong.isEmpty()) {
            List<int[]> blocks = blocks(s);
            wrong = block < 0 || block >= blocks.size() || from < 0 ? "IOOBE" : "";
            for (int p = from; wrong.isEmpty() && p < rows[1].length && want < 0; p++) {
                want = fits(blocks.get(block), p, bits) ? p : -1;
            }
        }
        answers(wrong, want, () -> desk.find(s, bits, block, from));
    }

    private void askPatch() {
        // A patch makes the rows alike so often that other states would be met too seldom.
        if (random.nextInt(3) == 0) {
            told = "patch()";
            if (made != null) {
                rows[0] = made.clone();
            }
            answers("", made == null ? 0 : made.length, desk::patch);
            checkRows();
        }
    }

    private void answers(String wrong, long want, Checks.Call call) {
        calls++;
        if (wrong.equals("IAE")) {
            checks.illegal(told, call::run);
        } else if (wrong.equals("IOOBE")) {
            checks.outside(told, call::run);
        } else {
            long[] got = {0};
            Class<?> thrown = Checks.thrown(() -> got[0] = call.run());
            checks.holds(told + " throws nothing, not " + thrown, thrown == null);
            checks.due(told, got[0], want);
        }
    }

    /** As many tokens as the calls allow, from a place at random on, and the sum of all. */
    private void checkTokens() {
        int first = random.nextInt(Math.max(1, tokens.size() - TOKENS_LOOKED_AT + 1));
        int end = Math.min(tokens.size(), first + TOKENS_LOOKED_AT);
        for (int k = first; k < end; k++) {
            for (int what = 0; what < 3; what++) {
                then("token(" + k + ", " + what + ")", desk.token(k, what), tokens.get(k)[what]);
            }
        }
        int sent = 0;
        for (int[] token : tokens) {
            sent += token[0] == 0 ? 5 : 3 + token[2];
        }
        then("count(2)", desk.count(2), tokens.size());
        then("sent()", desk.sent(), sent);
    }

    /** The sums of a whole row tell it in few calls. */
    private void checkRows() {
        for (int r = 0; r < 2; r++) {
            int n = rows[r].length;
            then("count(" + r + ")", desk.count(r), n);
            then("weak(" + r + ", 0, " + n + ")", desk.weak(r, 0, n), weak(rows[r], 0, n));
            then("strong(" + r + ", 0, " + n + ")", desk.strong(r, 0, n), strong(rows[r], 0, n));
        }
    }

    private void then(String call, long got, long want) {
        calls++;
        checks.due(told + ", then " + call, got, want);
    }

    private static boolean badRow(int r) {
        return r != 0 && r != 1;
    }

    private static boolean badSums(int s, int bits) {
        return s < 4 || s > 256 || bits < 0 || bits > 64;
    }

    private static boolean outside(long from, long n, long length) {
        return from < 0 || n < 0 || from + n > length;
    }

    private String modelSize(int r, int n) {
        if (badRow(r) || n < 0 || n > 1200) {
            return "IAE";
        }
        rows[r] = Arrays.copyOf(rows[r], n);
        return "";
    }

    private String modelPut(int r, int at, long v) {
        if (badRow(r)) {
            return "IAE";
        }
        if (outside(at, 1, rows[r].length)) {
            return "IOOBE";
        }
        byte[] bytes = java.nio.ByteBuffer.allocate(8).putLong(v).array();
        for (int i = 0; i < 8 && at + i < rows[r].length; i++) {
            rows[r][at + i] = Byte.toUnsignedInt(bytes[i]);
        }
        return "";
    }

    private String modelMove(int r, int from, int t, int to, int n) {
        if (badRow(r) || badRow(t)) {
            return "IAE";
        }
        if (outside(from, n, rows[r].length) || outside(to, n, rows[t].length)) {
            return "IOOBE";
        }
        int[] were = rows[r].clone();
        for (int i = 0; i < n; i++) {
            rows[t][to + i] = were[from + i];
        }
        return "";
    }

    private static int weak(int[] x, int from, int n) {
        long a = 0;
        long b = 0;
        for (int i = 0; i < n; i++) {
            a += x[from + i];
            b += (long) (n - i) * x[from + i];
        }
        return (int) (a % 65536 + 65536 * (b % 65536));
    }

    private static long strong(int[] x, int from, int n) {
        BigInteger sum = BigInteger.valueOf(-3750763034362895579L);
        for (int i = 0; i < n; i++) {
            sum = sum.xor(BigInteger.valueOf(x[from + i])).multiply(BigInteger.valueOf(1099511628211L));
            sum = BigInteger.valueOf(sum.longValue());
        }
        return sum.longValue();
    }

    private List<int[]> blocks(int s) {
        List<int[]> blocks = new ArrayList<>();
        for (int start = 0; start < rows[0].length; start += s) {
            blocks.add(Arrays.copyOfRange(rows[0], start, Math.min(start + s, rows[0].length)));
        }
        return blocks;
    }

    private boolean fits(int[] block, int p, int bits) {
        if (p + block.length > rows[1].length || weak(block, 0, block.length) != weak(rows[1], p, block.length)) {
            return false;
        }
        long differ = strong(block, 0, block.length) ^ strong(rows[1], p, block.length);
        return Long.numberOfTrailingZeros(differ) >= bits;
    }

    private void modelDelta(int s, int bits) {
        List<int[]> blocks = blocks(s);
        // One step a place: the number of the block taken, or -1 for an octet that is new.
        List<Integer> steps = new ArrayList<>();
        made = new int[0];
        tokens = new ArrayList<>();
        while (made.length < rows[1].length) {
            int p = made.length;
            int block = taken(blocks, steps.isEmpty() ? -1 : steps.get(steps.size() - 1), p, bits);
            int[] octets = block < 0 ? new int[] {rows[1][p]} : blocks.get(block);
            made = Arrays.copyOf(made, p + octets.length);
            System.arraycopy(octets, 0, made, p, octets.length);
            boolean joined = !steps.isEmpty() && (block < 0 ? steps.get(steps.size() - 1) < 0
                    : steps.get(steps.size() - 1) >= 0 && steps.get(steps.size() - 1) + 1 == block);
            if (joined) {
                tokens.get(tokens.size() - 1)[2]++;
            } else {
                tokens.add(new int[] {block < 0 ? 1 : 0, block < 0 ? p : block, 1});
            }
            steps.add(block);
        }
    }

    private int taken(List<int[]> blocks, int before, int p, int bits) {
        if (before >= 0 && before + 1 < blocks.size() && fits(blocks.get(before + 1), p, bits)) {
            return before + 1;
        }
        for (int block = 0; block < blocks.size(); block++) {
            if (fits(blocks.get(block), p, bits)) {
                return block;
            }
        }
        return -1;
    }
}
