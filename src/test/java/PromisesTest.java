/** For each promise of the document: ordinary inputs, the edges that it names, and wrong inputs. */
public final class PromisesTest extends Desks {
    public static void main(String[] args) {
        newObject();
        size();
        sizeWrong();
        put();
        putWrong();
        move();
        moveWrong();
        octet();
        weak();
        strong();
        sumsWrong();
        find();
        findByBits();
        findWrong();
        deltaOrdinary();
        deltaPrefersTheBlockBehind();
        deltaForgetsTheBlockBehindNewOctets();
        deltaTakesTheLeast();
        deltaTakesTheShortLastBlockAnywhere();
        deltaByBits();
        deltaEdges();
        deltaWrong();
        token();
        sent();
        patch();
        patchOfWrongFits();
        patchKeepsWhatWas();
        patchOfAnEmptyDelta();
        same();
        count();
        checks.end();
    }

    private static void newObject() {
        DeltaDesk x = new DeltaDesk();
        checks.due("new: count(0)", x.count(0), 0);
        checks.due("new: count(1)", x.count(1), 0);
        checks.due("new: count(2)", x.count(2), 0);
        checks.due("new: sent()", x.sent(), 0);
        checks.holds("new: same()", x.same());
        checks.due("new: patch()", x.patch(), 0);
        checks.outside("new: octet(0, 0)", () -> x.octet(0, 0));
        checks.outside("new: octet(1, 0)", () -> x.octet(1, 0));
        checks.outside("new: token(0, 0)", () -> x.token(0, 0));
        DeltaDesk other = new DeltaDesk();
        other.size(OLD, 3);
        checks.due("another object's row", x.count(0), 0);
    }

    private static void size() {
        DeltaDesk x = new DeltaDesk();
        x.size(OLD, 3);
        rowDue("size from none", x, OLD, 0, 0, 0);
        rowDue("size of the other", x, NEW);
        fill(x, NEW, 1, 2, 3, 4, 5);
        x.size(NEW, 5);
        rowDue("size as it was", x, NEW, 1, 2, 3, 4, 5);
        x.size(NEW, 2);
        rowDue("size down", x, NEW, 1, 2);
        x.size(NEW, 4);
        rowDue("size up again", x, NEW, 1, 2, 0, 0);
        x.size(NEW, 0);
        rowDue("size to none", x, NEW);
        x.size(NEW, 1200);
        checks.due("size to the limit", x.count(1), 1200);
        checks.due("the first is 0", x.octet(NEW, 0), 0);
        checks.due("the last is 0", x.octet(NEW, 1199), 0);
    }

    private static void sizeWrong() {
        DeltaDesk x = desk(row(7, 8), row(9));
        for (int r : NO_ROWS) {
            checks.illegal("size(" + r + ", 1)", () -> x.size(r, 1));
        }
        for (int n : row(-1, 1201, LEAST, MOST)) {
            checks.illegal("size(0, " + n + ")", () -> x.size(OLD, n));
            checks.illegal("size(1, " + n + ")", () -> x.size(NEW, n));
        }
        rowDue("after wrong sizes", x, OLD, 7, 8);
        rowDue("after wrong sizes", x, NEW, 9);
    }

    private static void put() {
        DeltaDesk x = new DeltaDesk();
        x.size(OLD, 10);
        x.put(OLD, 1, 0x01fe807f00ff1080L);
        rowDue("put", x, OLD, 0, 1, 254, 128, 127, 0, 255, 16, 128, 0);
        x.put(OLD, 9, 0xab00000000000000L);
        checks.due("put of the last octet alone", x.octet(OLD, 9), 0xab);
        x.put(OLD, 7, -1L);
        rowDue("put beyond the end", x, OLD, 0, 1, 254, 128, 127, 0, 255, 255, 255, 255);
        x.size(OLD, 12);
        rowDue("nothing was put beyond the end", x, OLD, 0, 1, 254, 128, 127, 0, 255, 255, 255, 255, 0, 0);
        rowDue("the other row", x, NEW);
        x.size(NEW, 1200);
        x.put(NEW, 1199, 0x1122334455667788L);
        checks.due("put at the limit", x.octet(NEW, 1199), 0x11);
    }

    private static void putWrong() {
        DeltaDesk x = desk(row(1, 2, 3), row());
        for (int r : NO_ROWS) {
            checks.illegal("put(" + r + ", 0, -1)", () -> x.put(r, 0, -1));
            checks.illegal("put(" + r + ", -1, -1), both wrong", () -> x.put(r, -1, -1));
        }
        for (int at : row(-1, -8, 3, 4, 1200, LEAST, MOST)) {
            checks.outside("put(0, " + at + ", -1)", () -> x.put(OLD, at, -1));
        }
        checks.outside("put(1, 0, -1)", () -> x.put(NEW, 0, -1));
        rowDue("after wrong puts", x, OLD, 1, 2, 3);
    }

    private static void move() {
        DeltaDesk x = desk(row(1, 2, 3, 4, 5, 6), row(9, 9, 9, 9));
        x.move(OLD, 1, NEW, 0, 3);
        rowDue("move", x, NEW, 2, 3, 4, 9);
        rowDue("move leaves", x, OLD, 1, 2, 3, 4, 5, 6);
        x.move(NEW, 3, OLD, 5, 1);
        rowDue("move of the last", x, OLD, 1, 2, 3, 4, 5, 9);
        x.move(OLD, 0, OLD, 2, 4);
        rowDue("move forth within a row", x, OLD, 1, 2, 1, 2, 3, 4);
        x.move(OLD, 1, OLD, 0, 5);
        rowDue("move back within a row", x, OLD, 2, 1, 2, 3, 4, 4);
        x.move(OLD, 6, NEW, 4, 0);
        x.move(OLD, 0, NEW, 0, 0);
        rowDue("move of none", x, NEW, 2, 3, 4, 9);
        x.move(OLD, 0, OLD, 0, 6);
        rowDue("move to its own place", x, OLD, 2, 1, 2, 3, 4, 4);
    }

    private static void moveWrong() {
        DeltaDesk x = desk(row(1, 2, 3, 4), row(5, 6));
        for (int r : NO_ROWS) {
            checks.illegal("move(" + r + ", 0, 0, 0, 1)", () -> x.move(r, 0, OLD, 0, 1));
            checks.illegal("move(0, 0, " + r + ", 0, 1)", () -> x.move(OLD, 0, r, 0, 1));
            checks.illegal("move(0, -1, " + r + ", 0, -1), both wrong", () -> x.move(OLD, -1, r, 0, -1));
        }
        int[][] wrong = {{0, 0, -1}, {0, 0, LEAST}, {0, 0, 3}, {2, 0, 3}, {4, 0, 1}, {0, 1, 2}, {0, 2, 1},
            {-1, 0, 1}, {0, -1, 1}, {MOST, 0, 1}, {0, MOST, 1}, {1, 0, MOST}, {MOST, 0, MOST}, {LEAST, 0, 1},
            {0, LEAST, 1}, {-1, 0, 0}, {0, -1, 0}, {5, 0, 0}, {0, 3, 0}};
        for (int[] w : wrong) {
            checks.outside("move(0, " + w[0] + ", 1, " + w[1] + ", " + w[2] + ")",
                    () -> x.move(OLD, w[0], NEW, w[1], w[2]));
        }
        rowDue("after wrong moves", x, OLD, 1, 2, 3, 4);
        rowDue("after wrong moves", x, NEW, 5, 6);
    }

    private static void octet() {
        DeltaDesk x = desk(row(200, 0), row(255, 1, 128));
        checks.due("octet(0, 0)", x.octet(OLD, 0), 200);
        checks.due("octet(1, 0)", x.octet(NEW, 0), 255);
        checks.due("octet(1, 2)", x.octet(NEW, 2), 128);
        for (int r : NO_ROWS) {
            checks.illegal("octet(" + r + ", 0)", () -> x.octet(r, 0));
            checks.illegal("octet(" + r + ", -1), both wrong", () -> x.octet(r, -1));
        }
        for (int k : row(-1, 2, 1200, LEAST, MOST)) {
            checks.outside("octet(0, " + k + ")", () -> x.octet(OLD, k));
        }
    }

    private static void weak() {
        DeltaDesk x = desk(row(1, 2, 3, 250), repeat(255, 1200));
        checks.due("weak of one", x.weak(OLD, 3, 1), 250 + 65536 * 250);
        checks.due("weak of two", x.weak(OLD, 1, 2), 5 + 65536 * (2 * 2 + 3));
        checks.due("weak of all", x.weak(OLD, 0, 4), 256 + 65536 * (4 + 3 * 2 + 2 * 3 + 250));
        checks.due("weak of none", x.weak(OLD, 0, 0), 0);
        checks.due("weak of none at the end", x.weak(OLD, 4, 0), 0);
        // a = 255 * 1200 = 306000 = 43856 mod 65536; b = 255 * 1200 * 1201 / 2 = 183753000 = 55592 mod 65536.
        checks.due("weak by the lowest 16 bits", x.weak(NEW, 0, 1200), 43856 + 65536 * 55592);
    }

    private static void strong() {
        DeltaDesk x = desk(row(97, 98, 255), repeat(0, 2));
        checks.due("strong of none", x.strong(OLD, 1, 0), -3750763034362895579L);
        checks.due("strong of none at the end", x.strong(OLD, 3, 0), -3750763034362895579L);
        // The known FNV-1a sum of the text "a".
        checks.due("strong of one", x.strong(OLD, 0, 1), 0xaf63dc4c8601ec8cL);
        checks.due("strong of two", x.strong(OLD, 0, 2), 0x089c4407b545986aL);
        checks.due("strong of an octet above 127", x.strong(OLD, 2, 1),
                (-3750763034362895579L ^ 255L) * 1099511628211L);
        checks.due("strong of the other row", x.strong(NEW, 0, 1), -3750763034362895579L * 1099511628211L);
    }

    private static void sumsWrong() {
        DeltaDesk x = desk(row(1, 2, 3), row());
        for (int r : NO_ROWS) {
            checks.illegal("weak(" + r + ", 0, 0)", () -> x.weak(r, 0, 0));
            checks.illegal("strong(" + r + ", 0, 0)", () -> x.strong(r, 0, 0));
            checks.illegal("weak(" + r + ", 0, -1), both wrong", () -> x.weak(r, 0, -1));
            checks.illegal("strong(" + r + ", 0, -1), both wrong", () -> x.strong(r, 0, -1));
        }
        int[][] wrong = {{0, -1}, {0, LEAST}, {0, 4}, {1, 3}, {3, 1}, {-1, 1}, {-1, 0}, {4, 0}, {4, -1},
            {MOST, 1}, {MOST, MOST}, {1, MOST}, {LEAST, 0}, {LEAST, LEAST}, {LEAST, MOST}};
        for (int[] w : wrong) {
            checks.outside("weak(0, " + w[0] + ", " + w[1] + ")", () -> x.weak(OLD, w[0], w[1]));
            checks.outside("strong(0, " + w[0] + ", " + w[1] + ")", () -> x.strong(OLD, w[0], w[1]));
        }
        checks.outside("weak(1, 0, 1)", () -> x.weak(NEW, 0, 1));
        checks.outside("strong(1, 0, 1)", () -> x.strong(NEW, 0, 1));
    }

    private static void find() {
        DeltaDesk x = desk(row(1, 2, 3, 4, 5, 6), row(5, 6, 1, 2, 3, 4, 9, 1, 2, 3, 4, 5, 6));
        checks.due("find(4, 64, 0, 0)", x.find(4, 64, 0, 0), 2);
        checks.due("find from the place itself", x.find(4, 64, 0, 2), 2);
        checks.due("find behind it", x.find(4, 64, 0, 3), 7);
        checks.due("find behind all", x.find(4, 64, 0, 8), -1);
        checks.due("find the short last block", x.find(4, 64, 1, 0), 0);
        checks.due("find it at the very end", x.find(4, 64, 1, 1), 11);
        checks.due("find it where there are too few", x.find(4, 64, 1, 12), -1);
        checks.due("find from the end", x.find(4, 64, 1, 13), -1);
        checks.due("find from beyond the end", x.find(4, 64, 1, 14), -1);
        checks.due("find from far beyond", x.find(4, 64, 1, MOST), -1);
        checks.due("find one block of all", x.find(256, 64, 0, 0), 7);
        x.size(NEW, 3);
        checks.due("find what is longer than NEW", x.find(4, 64, 0, 0), -1);
        x.size(NEW, 0);
        checks.due("find in none", x.find(4, 64, 0, 0), -1);
        checks.due("find makes no DELTA", x.patch(), 0);
    }

    private static void findByBits() {
        // 0 2 0 and 1 0 1 have one WEAK: 2 + 65536 * 4; so have the rows of four.
        DeltaDesk x = desk(row(0, 2, 0, 7), row(1, 0, 1, 7, 0, 2, 0, 7));
        checks.due("WEAK is the same", x.weak(OLD, 0, 4), x.weak(NEW, 0, 4));
        checks.due("find by no bits", x.find(4, 0, 0, 0), 0);
        checks.due("find by all bits", x.find(4, 64, 0, 0), 4);
        long other = x.strong(OLD, 0, 4) ^ x.strong(NEW, 0, 4);
        int agree = Long.numberOfTrailingZeros(other);
        for (int bits = 0; bits <= 64; bits++) {
            checks.due("find(4, " + bits + ", 0, 0)", x.find(4, bits, 0, 0), bits <= agree ? 0 : 4);
        }
    }

    private static void findWrong() {
        DeltaDesk x = desk(repeat(1, 8), repeat(1, 8));
        for (int s : row(3, 257, 0, -4, LEAST, MOST)) {
            checks.illegal("find(" + s + ", 0, 0, 0)", () -> x.find(s, 0, 0, 0));
            checks.illegal("find(" + s + ", 0, -1, -1), all wrong", () -> x.find(s, 0, -1, -1));
        }
        for (int bits : row(-1, 65, LEAST, MOST)) {
            checks.illegal("find(4, " + bits + ", 0, 0)", () -> x.find(4, bits, 0, 0));
            checks.illegal("find(4, " + bits + ", 9, 0), both wrong", () -> x.find(4, bits, 9, 0));
        }
        for (int block : row(-1, 2, 300, LEAST, MOST)) {
            checks.outside("find(4, 0, " + block + ", 0)", () -> x.find(4, 0, block, 0));
            checks.outside("find(4, 0, " + block + ", 99)", () -> x.find(4, 0, block, 99));
        }
        checks.outside("find(4, 0, 0, -1)", () -> x.find(4, 0, 0, -1));
        checks.outside("find(4, 0, 0, LEAST)", () -> x.find(4, 0, 0, LEAST));
        checks.due("find of the last block", x.find(4, 0, 1, 0), 0);
        x.size(OLD, 9);
        checks.due("find of a block of one", x.find(4, 0, 2, 0), -1);
        x.size(OLD, 0);
        checks.outside("find of a block of none", () -> x.find(4, 0, 0, 0));
    }

    private static void deltaOrdinary() {
        DeltaDesk x = desk(row(1, 2, 3, 4, 5, 6, 7, 8, 9, 10), row(1, 2, 3, 4, 77, 78, 5, 6, 7, 8, 9, 10, 79));
        checks.due("delta(4, 64)", x.delta(4, 64), 4);
        tokensDue("delta(4, 64)", x, 0, 0, 1, 1, 4, 2, 0, 1, 2, 1, 12, 1);
        checks.due("delta(256, 64)", x.delta(256, 64), 1);
        tokensDue("delta(256, 64)", x, 1, 0, 13);
        checks.due("delta(5, 64)", x.delta(5, 64), 3);
        tokensDue("delta(5, 64)", x, 1, 0, 7, 0, 1, 1, 1, 12, 1);
    }

    private static void deltaPrefersTheBlockBehind() {
        // Blocks 0 and 2 are equal: behind block 1 it is 2 that is taken, at the start the least, 0.
        DeltaDesk x = desk(row(1, 1, 1, 1, 2, 2, 2, 2, 1, 1, 1, 1), row(2, 2, 2, 2, 1, 1, 1, 1, 1, 1, 1, 1));
        x.delta(4, 64);
        tokensDue("the block behind", x, 0, 1, 2, 0, 0, 1);
        fill(x, NEW, 1, 1, 1, 1, 2, 2, 2, 2, 1, 1, 1, 1);
        x.delta(4, 64);
        tokensDue("all in order", x, 0, 0, 3);
        fill(x, NEW, 1, 1, 1, 1, 1, 1, 1, 1);
        x.delta(4, 64);
        tokensDue("the same block twice is two tokens", x, 0, 0, 1, 0, 0, 1);
    }

    private static void deltaForgetsTheBlockBehindNewOctets() {
        DeltaDesk x = desk(row(1, 1, 1, 1, 2, 2, 2, 2, 1, 1, 1, 1), row(2, 2, 2, 2, 9, 1, 1, 1, 1));
        x.delta(4, 64);
        tokensDue("behind an octet NEW the least", x, 0, 1, 1, 1, 4, 1, 0, 0, 1);
    }

    private static void deltaTakesTheLeast() {
        DeltaDesk x = desk(row(5, 5, 5, 5, 1, 1, 1, 1, 1, 1, 1, 1), row(1, 1, 1, 1));
        x.delta(4, 64);
        tokensDue("the least", x, 0, 1, 1);
        // The last block is short and fits where the longer block 0 fits too.
        fill(x, OLD, 1, 1, 1, 1, 1, 1);
        fill(x, NEW, 1, 1, 1, 1);
        x.delta(4, 64);
        tokensDue("the longer one is the least", x, 0, 0, 1);
    }

    private static void deltaTakesTheShortLastBlockAnywhere() {
        DeltaDesk x = desk(row(1, 2, 3, 4, 5), row(5, 5, 1, 2, 3, 4, 5, 9, 5));
        x.delta(4, 64);
        tokensDue("the last block", x, 0, 1, 1, 0, 1, 1, 0, 0, 2, 1, 7, 1, 0, 1, 1);
        fill(x, NEW, 1, 2, 3);
        x.delta(4, 64);
        tokensDue("a beginning of a block does not fit", x, 1, 0, 3);
    }

    private static void deltaByBits() {
        DeltaDesk x = desk(row(0, 2, 0, 7), row(1, 0, 1, 7));
        int agree = Long.numberOfTrailingZeros(x.strong(OLD, 0, 4) ^ x.strong(NEW, 0, 4));
        for (int bits = 0; bits <= 64; bits += 2) {
            x.delta(4, bits);
            tokensDue("delta(4, " + bits + ")", x, bits <= agree ? 0 : 1, 0, bits <= agree ? 1 : 4);
        }
    }

    private static void deltaEdges() {
        DeltaDesk x = new DeltaDesk();
        checks.due("delta of none", x.delta(4, 0), 0);
        fill(x, OLD, 1, 2, 3);
        checks.due("delta of no NEW", x.delta(4, 0), 0);
        x.size(OLD, 0);
        fill(x, NEW, 0, 0, 0);
        checks.due("delta of no OLD", x.delta(4, 0), 1);
        tokensDue("delta of no OLD", x, 1, 0, 3);
        x.size(OLD, 1200);
        x.size(NEW, 1200);
        checks.due("delta of the longest rows", x.delta(4, 64), 1);
        tokensDue("delta of the longest rows", x, 0, 0, 300);
        x.size(OLD, 1);
        checks.due("as many tokens as octets", x.delta(256, 64), 1200);
        checks.due("its last token", x.token(1199, 0), 0);
        checks.due("its octets", x.sent(), 6000);
        checks.due("what it makes", x.patch(), 1200);
        checks.holds("what it makes is NEW", x.same());
    }

    private static void deltaWrong() {
        DeltaDesk x = desk(repeat(1, 8), repeat(1, 9));
        x.delta(4, 64);
        x.size(NEW, 4);
        for (int s : row(3, 257, 0, -1, LEAST, MOST)) {
            checks.illegal("delta(" + s + ", 0)", () -> x.delta(s, 0));
        }
        for (int bits : row(-1, 65, LEAST, MOST)) {
            checks.illegal("delta(4, " + bits + ")", () -> x.delta(4, bits));
        }
        tokensDue("after wrong deltas", x, 0, 0, 2, 1, 8, 1);
        checks.due("patch after wrong deltas", x.patch(), 9);
        DeltaDesk y = desk(repeat(1, 8), row());
        checks.illegal("delta(3, 64)", () -> y.delta(3, 64));
        checks.due("patch without a DELTA", y.patch(), 0);
        checks.due("OLD without a DELTA", y.count(0), 8);
    }

    private static void token() {
        DeltaDesk x = desk(row(1, 2, 3, 4, 5, 6, 7, 8), row(9, 8, 1, 2, 3, 4, 5, 6, 7, 8));
        x.delta(4, 64);
        tokensDue("token", x, 1, 0, 2, 0, 0, 2);
        for (int what : row(-1, 3, LEAST, MOST)) {
            checks.illegal("token(0, " + what + ")", () -> x.token(0, what));
            checks.illegal("token(9, " + what + "), both wrong", () -> x.token(9, what));
        }
        for (int k : row(-1, 2, 1200, LEAST, MOST)) {
            checks.outside("token(" + k + ", 0)", () -> x.token(k, 0));
            checks.outside("token(" + k + ", 2)", () -> x.token(k, 2));
        }
        x.size(OLD, 0);
        x.size(NEW, 0);
        tokensDue("the latest DELTA stays when rows change", x, 1, 0, 2, 0, 0, 2);
        x.delta(4, 64);
        checks.outside("token(0, 0) of an empty DELTA", () -> x.token(0, 0));
    }

    private static void sent() {
        DeltaDesk x = desk(row(1, 2, 3, 4, 5, 6, 7, 8), row(9, 8, 1, 2, 3, 4, 5, 6, 7, 8));
        checks.due("sent() without a DELTA", x.sent(), 0);
        x.delta(4, 64);
        checks.due("sent()", x.sent(), 3 + 2 + 5);
        x.size(NEW, 4);
        checks.due("sent() of the latest DELTA", x.sent(), 3 + 2 + 5);
        x.delta(4, 64);
        checks.due("sent() of NEW alone", x.sent(), 3 + 4);
        x.size(NEW, 0);
        x.delta(4, 64);
        checks.due("sent() of an empty DELTA", x.sent(), 0);
    }

    private static void patch() {
        DeltaDesk x = desk(row(1, 2, 3, 4, 5, 6), row(5, 6, 7, 1, 2, 3, 4));
        checks.due("patch() without a DELTA", x.patch(), 0);
        rowDue("patch() without a DELTA", x, OLD, 1, 2, 3, 4, 5, 6);
        x.delta(4, 64);
        checks.due("patch()", x.patch(), 7);
        rowDue("patch()", x, OLD, 5, 6, 7, 1, 2, 3, 4);
        rowDue("patch() leaves NEW", x, NEW, 5, 6, 7, 1, 2, 3, 4);
        tokensDue("patch() leaves the DELTA", x, 0, 1, 1, 1, 2, 1, 0, 0, 1);
        checks.due("patch() again", x.patch(), 7);
        rowDue("patch() again", x, OLD, 5, 6, 7, 1, 2, 3, 4);
        x.size(OLD, 9);
        rowDue("size behind patch()", x, OLD, 5, 6, 7, 1, 2, 3, 4, 0, 0);
    }

    private static void patchOfWrongFits() {
        DeltaDesk x = desk(row(0, 2, 0, 7, 3), row(1, 0, 1, 7, 8));
        checks.due("delta by no bits", x.delta(4, 0), 2);
        checks.due("patch by no bits", x.patch(), 5);
        rowDue("a COPY brings the octets of OLD", x, OLD, 0, 2, 0, 7, 8);
        checks.holds("both differ", !x.same());
    }

    private static void patchKeepsWhatWas() {
        DeltaDesk x = desk(row(1, 2, 3, 4, 5, 6), row(5, 6, 7, 1, 2, 3, 4));
        x.delta(4, 64);
        fill(x, OLD, 9);
        fill(x, NEW, 8, 8, 8);
        checks.due("patch() behind changes", x.patch(), 7);
        rowDue("patch() behind changes", x, OLD, 5, 6, 7, 1, 2, 3, 4);
        rowDue("patch() behind changes", x, NEW, 8, 8, 8);
        x.put(OLD, 0, 0L);
        x.patch();
        rowDue("patch() behind a put into what it made", x, OLD, 5, 6, 7, 1, 2, 3, 4);
        x.size(OLD, 0);
        checks.due("patch() of an OLD of none", x.patch(), 7);
    }

    private static void patchOfAnEmptyDelta() {
        DeltaDesk x = desk(row(1, 2, 3), row());
        x.delta(4, 64);
        checks.due("patch() of an empty DELTA", x.patch(), 0);
        rowDue("patch() of an empty DELTA", x, OLD);
        x.size(OLD, 2);
        rowDue("size behind it", x, OLD, 0, 0);
    }

    private static void same() {
        DeltaDesk x = desk(row(1, 2, 3), row(1, 2, 3));
        checks.holds("same", x.same());
        x.size(OLD, 2);
        checks.holds("not same: OLD is shorter", !x.same());
        x.size(NEW, 2);
        checks.holds("same again", x.same());
        x.size(OLD, 3);
        checks.holds("not same: NEW is shorter", !x.same());
        x.size(NEW, 3);
        checks.holds("what was cut off does not count", x.same());
        fill(x, NEW, 1, 2, 1);
        checks.holds("not same: the last octet", !x.same());
        fill(x, NEW, 2, 2, 0);
        checks.holds("not same: the first octet", !x.same());
        x.size(OLD, 0);
        x.size(NEW, 0);
        checks.holds("same: none", x.same());
    }

    private static void count() {
        DeltaDesk x = desk(row(1, 2, 3, 4, 5), row(1, 2, 3, 4, 9, 9, 9));
        checks.due("count(0)", x.count(0), 5);
        checks.due("count(1)", x.count(1), 7);
        checks.due("count(2) without a DELTA", x.count(2), 0);
        x.delta(4, 64);
        checks.due("count(2)", x.count(2), 2);
        x.size(NEW, 0);
        checks.due("count(2) of the latest DELTA", x.count(2), 2);
        for (int what : row(-1, 3, LEAST, MOST)) {
            checks.illegal("count(" + what + ")", () -> x.count(what));
        }
    }
}
