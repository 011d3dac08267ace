/** For each sentence of the promises 1 to 14 that names a limit: a test of its own, told by the sentence's words. */
public final class BoundariesTest extends Desks {
    public static void main(String[] args) {
        newHasNoOctets();
        newHasNoDelta();
        sizeKeepsTheFirstOnes();
        sizeMakesOthersZero();
        sizeRefusesOtherRows();
        sizeRefusesOtherLengths();
        putBringsTheHighestFirst();
        putBringsNoneBeyondTheEnd();
        putRefusesOtherRows();
        putRefusesWhatIsNoneOfItsOctets();
        moveBringsOctetsAsTheyWere();
        moveOfNoneChangesNothing();
        moveDoesNotMakeRowsLonger();
        moveRefusesOtherRows();
        moveRefusesBelowZero();
        moveRefusesWhereNotSoManyAre();
        octetIsNeverBelowZero();
        octetRefusesOtherRows();
        octetRefusesWhereThereIsNone();
        sumsOfNone();
        sumsRefuseOtherRows();
        sumsRefuseBelowZero();
        sumsRefuseWhereNotSoManyAre();
        findGivesTheFirstPlace();
        findBeginsAtFrom();
        findGivesNoneWhereThereIsNone();
        findGivesNoneBeyondTheEnd();
        findTakesTheLimitsOfBlocksAndBits();
        findRefusesOtherBlockSizes();
        findRefusesOtherBits();
        findRefusesWhereThereIsNoSuchBlock();
        findRefusesBelowZero();
        findChangesNothing();
        deltaTellsHowManyTokens();
        deltaTakesTheLimitsOfBlocksAndBits();
        deltaRefusesOtherBlockSizes();
        deltaRefusesOtherBits();
        tokenTellsTheLatestDelta();
        tokenRefusesOtherQuestions();
        tokenRefusesWhereThereIsNone();
        sentOfCopiesAndOctets();
        sentWithoutADelta();
        sentOfTheLatestDelta();
        patchTakesAllAsItWas();
        patchWithoutADelta();
        patchOfADeltaOfNone();
        patchMakesOldShorterAndLonger();
        patchLeavesNewAndTheDelta();
        sameAsksForLengthsToo();
        sameAsksForEachOctet();
        sameIgnoresWhatWasCutOff();
        countTellsEach();
        countRefusesOtherQuestions();
        checks.end();
    }

    private static void newHasNoOctets() {
        DeltaDesk x = new DeltaDesk();
        checks.due("new: count(0)", x.count(0), 0);
        checks.due("new: count(1)", x.count(1), 0);
        checks.holds("new: same()", x.same());
        checks.outside("new: put(0, 0, 1)", () -> x.put(OLD, 0, 1L));
        checks.outside("new: move of one", () -> x.move(OLD, 0, NEW, 0, 1));
        checks.outside("new: find(4, 0, 0, 0)", () -> x.find(4, 0, 0, 0));
    }

    private static void newHasNoDelta() {
        DeltaDesk x = new DeltaDesk();
        checks.due("new: count(2)", x.count(2), 0);
        checks.due("new: sent()", x.sent(), 0);
        checks.outside("new: token(0, 0)", () -> x.token(0, 0));
        fill(x, OLD, 4, 5);
        checks.due("new: patch()", x.patch(), 0);
        rowDue("new: patch()", x, OLD, 4, 5);
    }

    private static void sizeKeepsTheFirstOnes() {
        for (int r = OLD; r <= NEW; r++) {
            DeltaDesk x = new DeltaDesk();
            fill(x, r, 1, 2, 3, 4);
            x.size(r, 4);
            rowDue("size as it is", x, r, 1, 2, 3, 4);
            x.size(r, 6);
            rowDue("size up", x, r, 1, 2, 3, 4, 0, 0);
            x.size(r, 3);
            rowDue("size down", x, r, 1, 2, 3);
            x.size(r, 0);
            rowDue("size to none", x, r);
            rowDue("the other row", x, 1 - r);
        }
    }

    private static void sizeMakesOthersZero() {
        DeltaDesk x = new DeltaDesk();
        fill(x, NEW, repeat(255, 1200));
        x.size(NEW, 1);
        x.size(NEW, 1200);
        checks.due("the first one stays", x.octet(NEW, 0), 255);
        checks.due("others are 0, all of them", x.weak(NEW, 1, 1199), 0);
        // A patch makes OLD shorter too: what stood behind must not come back.
        fill(x, OLD, repeat(255, 20));
        fill(x, NEW, 7);
        x.delta(4, 64);
        x.patch();
        x.size(OLD, 20);
        checks.due("the first one behind a patch", x.octet(OLD, 0), 7);
        checks.due("others behind a patch", x.weak(OLD, 1, 19), 0);
    }

    private static void sizeRefusesOtherRows() {
        DeltaDesk x = new DeltaDesk();
        for (int r : NO_ROWS) {
            checks.illegal("size(" + r + ", 1)", () -> x.size(r, 1));
        }
        checks.due("OLD", x.count(0), 0);
        checks.due("NEW", x.count(1), 0);
    }

    private static void sizeRefusesOtherLengths() {
        for (int r = OLD; r <= NEW; r++) {
            int which = r;
            DeltaDesk x = desk(row(1, 2), row(1, 2));
            for (int n : row(-1, 1201, LEAST, MOST)) {
                checks.illegal("size(" + r + ", " + n + ")", () -> x.size(which, n));
            }
            rowDue("refused", x, r, 1, 2);
            x.size(r, 0);
            checks.due("size(" + r + ", 0)", x.count(r), 0);
            x.size(r, 1200);
            checks.due("size(" + r + ", 1200)", x.count(r), 1200);
        }
    }

    private static void putBringsTheHighestFirst() {
        DeltaDesk x = desk(repeat(9, 8), repeat(9, 10));
        x.put(OLD, 0, 0x0102030405060708L);
        rowDue("put", x, OLD, 1, 2, 3, 4, 5, 6, 7, 8);
        x.put(NEW, 1, Long.MIN_VALUE);
        rowDue("put of the least", x, NEW, 9, 128, 0, 0, 0, 0, 0, 0, 0, 9);
        x.put(NEW, 1, -1L);
        rowDue("put of -1", x, NEW, 9, 255, 255, 255, 255, 255, 255, 255, 255, 9);
        x.put(NEW, 2, 255L);
        rowDue("put of 255", x, NEW, 9, 255, 0, 0, 0, 0, 0, 0, 0, 255);
    }

    private static void putBringsNoneBeyondTheEnd() {
        for (int there = 1; there <= 8; there++) {
            DeltaDesk x = desk(repeat(99, 10), repeat(99, 10));
            x.put(OLD, 10 - there, 0x0102030405060708L);
            for (int k = 0; k < 10; k++) {
                checks.due(there + " are there: octet " + k, x.octet(OLD, k), k < 10 - there ? 99 : k - 9 + there);
            }
            x.size(OLD, 18);
            checks.due(there + " are there: beyond the end", x.weak(OLD, 10, 8), 0);
            rowDue("the other row", x, NEW, repeat(99, 10));
        }
        DeltaDesk full = new DeltaDesk();
        full.size(OLD, 1200);
        full.put(OLD, 1199, 0x0102030405060708L);
        checks.due("the last of a full row", full.octet(OLD, 1199), 1);
        checks.due("the last but one of it", full.octet(OLD, 1198), 0);
    }

    private static void putRefusesOtherRows() {
        DeltaDesk x = desk(repeat(5, 9), repeat(5, 9));
        for (int r : NO_ROWS) {
            checks.illegal("put(" + r + ", 0, -1)", () -> x.put(r, 0, -1L));
        }
        rowDue("refused", x, OLD, repeat(5, 9));
        rowDue("refused", x, NEW, repeat(5, 9));
    }

    private static void putRefusesWhatIsNoneOfItsOctets() {
        DeltaDesk x = desk(repeat(5, 9), row());
        for (int at : row(-1, -7, -8, 9, 10, 1199, 1200, LEAST, MOST)) {
            checks.outside("put(0, " + at + ", -1)", () -> x.put(OLD, at, -1L));
        }
        checks.outside("put into none", () -> x.put(NEW, 0, -1L));
        x.size(OLD, 1200);
        checks.outside("put(0, 1200, -1) of a full row", () -> x.put(OLD, 1200, -1L));
        x.size(OLD, 12);
        rowDue("refused", x, OLD, 5, 5, 5, 5, 5, 5, 5, 5, 5, 0, 0, 0);
    }

    private static void moveBringsOctetsAsTheyWere() {
        DeltaDesk x = desk(upTo(6), repeat(99, 6));
        x.move(OLD, 0, OLD, 1, 5);
        rowDue("on by one within a row", x, OLD, 1, 1, 2, 3, 4, 5);
        fill(x, OLD, upTo(6));
        x.move(OLD, 1, OLD, 0, 5);
        rowDue("back by one within a row", x, OLD, 2, 3, 4, 5, 6, 6);
        x.move(OLD, 0, OLD, 0, 6);
        rowDue("to where they are", x, OLD, 2, 3, 4, 5, 6, 6);
        x.move(OLD, 2, NEW, 4, 2);
        rowDue("to the end of the other", x, NEW, 99, 99, 99, 99, 4, 5);
        rowDue("from one that stays", x, OLD, 2, 3, 4, 5, 6, 6);
        x.move(NEW, 3, NEW, 0, 3);
        rowDue("within the other", x, NEW, 99, 4, 5, 99, 4, 5);
        x.move(NEW, 0, OLD, 0, 6);
        checks.holds("a whole row", x.same());
        fill(x, OLD, repeat(3, 1200));
        x.size(NEW, 1200);
        x.move(OLD, 0, NEW, 0, 1200);
        checks.holds("a whole full row", x.same());
    }

    private static void moveOfNoneChangesNothing() {
        DeltaDesk x = desk(upTo(3), row(7));
        x.move(OLD, 0, NEW, 0, 0);
        x.move(OLD, 3, NEW, 1, 0);
        x.move(NEW, 1, OLD, 3, 0);
        rowDue("a move of none", x, OLD, upTo(3));
        rowDue("a move of none", x, NEW, 7);
        DeltaDesk none = new DeltaDesk();
        none.move(OLD, 0, NEW, 0, 0);
        rowDue("a move of none from none", none, NEW);
    }

    private static void moveDoesNotMakeRowsLonger() {
        DeltaDesk x = desk(upTo(4), upTo(3));
        checks.outside("four into three", () -> x.move(OLD, 0, NEW, 0, 4));
        checks.outside("two behind two of three", () -> x.move(OLD, 0, NEW, 2, 2));
        checks.outside("one behind three of three", () -> x.move(OLD, 0, NEW, 3, 1));
        rowDue("refused", x, NEW, upTo(3));
        x.size(NEW, 0);
        checks.outside("one into none", () -> x.move(OLD, 0, NEW, 0, 1));
        rowDue("refused", x, NEW);
    }

    private static void moveRefusesOtherRows() {
        DeltaDesk x = desk(upTo(4), repeat(9, 4));
        for (int r : NO_ROWS) {
            checks.illegal("move(" + r + ", 0, 1, 0, 1)", () -> x.move(r, 0, NEW, 0, 1));
            checks.illegal("move(0, 0, " + r + ", 0, 1)", () -> x.move(OLD, 0, r, 0, 1));
            checks.illegal("move(" + r + ", 0, " + r + ", 0, 0)", () -> x.move(r, 0, r, 0, 0));
        }
        rowDue("refused", x, OLD, upTo(4));
        rowDue("refused", x, NEW, repeat(9, 4));
    }

    private static void moveRefusesBelowZero() {
        DeltaDesk x = desk(upTo(4), repeat(9, 4));
        for (int n : row(-1, -4, LEAST)) {
            checks.outside("move(0, 2, 1, 2, " + n + ")", () -> x.move(OLD, 2, NEW, 2, n));
            checks.outside("move(0, 4, 1, 4, " + n + ")", () -> x.move(OLD, 4, NEW, 4, n));
        }
        rowDue("refused", x, NEW, repeat(9, 4));
    }

    private static void moveRefusesWhereNotSoManyAre() {
        DeltaDesk x = desk(upTo(4), repeat(9, 8));
        int[][] from = {{0, 5}, {1, 4}, {3, 2}, {4, 1}, {5, 1}, {-1, 1}, {-1, 5}, {LEAST, 1}, {MOST, 1}, {1, MOST},
            {MOST, MOST}, {LEAST, MOST}};
        for (int[] w : from) {
            checks.outside("too few in r: from " + w[0] + ", n " + w[1], () -> x.move(OLD, w[0], NEW, 0, w[1]));
        }
        int[][] to = {{5, 4}, {7, 2}, {8, 1}, {9, 1}, {-1, 1}, {LEAST, 1}, {MOST, 1}, {MOST, 4}};
        for (int[] w : to) {
            checks.outside("too few in t: to " + w[0] + ", n " + w[1], () -> x.move(OLD, 0, NEW, w[0], w[1]));
        }
        rowDue("refused", x, OLD, upTo(4));
        rowDue("refused", x, NEW, repeat(9, 8));
        x.move(OLD, 0, NEW, 4, 4);
        rowDue("as many as there are", x, NEW, 9, 9, 9, 9, 1, 2, 3, 4);
    }

    private static void octetIsNeverBelowZero() {
        DeltaDesk x = desk(row(0, 127, 128, 255), row(255));
        rowDue("octets", x, OLD, 0, 127, 128, 255);
        checks.due("of the other row", x.octet(NEW, 0), 255);
    }

    private static void octetRefusesOtherRows() {
        DeltaDesk x = desk(upTo(2), upTo(2));
        for (int r : NO_ROWS) {
            checks.illegal("octet(" + r + ", 0)", () -> x.octet(r, 0));
        }
    }

    private static void octetRefusesWhereThereIsNone() {
        DeltaDesk x = desk(upTo(2), upTo(3));
        checks.due("the last of OLD", x.octet(OLD, 1), 2);
        checks.due("the last of NEW", x.octet(NEW, 2), 3);
        for (int k : row(-1, 2, 3, 1199, 1200, LEAST, MOST)) {
            checks.outside("octet(0, " + k + ")", () -> x.octet(OLD, k));
        }
        checks.outside("octet(1, 3)", () -> x.octet(NEW, 3));
        x.size(NEW, 2);
        checks.outside("what was cut off", () -> x.octet(NEW, 2));
    }

    private static void sumsOfNone() {
        DeltaDesk x = desk(upTo(3), row());
        for (int from = 0; from <= 3; from++) {
            checks.due("weak(0, " + from + ", 0)", x.weak(OLD, from, 0), 0);
            checks.due("strong(0, " + from + ", 0)", x.strong(OLD, from, 0), -3750763034362895579L);
        }
        checks.due("weak(1, 0, 0)", x.weak(NEW, 0, 0), 0);
        checks.due("strong(1, 0, 0)", x.strong(NEW, 0, 0), -3750763034362895579L);
    }

    private static void sumsRefuseOtherRows() {
        DeltaDesk x = desk(upTo(3), upTo(3));
        for (int r : NO_ROWS) {
            checks.illegal("weak(" + r + ", 0, 1)", () -> x.weak(r, 0, 1));
            checks.illegal("strong(" + r + ", 0, 1)", () -> x.strong(r, 0, 1));
        }
    }

    private static void sumsRefuseBelowZero() {
        DeltaDesk x = desk(upTo(3), row());
        for (int n : row(-1, -3, LEAST)) {
            checks.outside("weak(0, 3, " + n + ")", () -> x.weak(OLD, 3, n));
            checks.outside("strong(0, 3, " + n + ")", () -> x.strong(OLD, 3, n));
        }
    }

    private static void sumsRefuseWhereNotSoManyAre() {
        DeltaDesk x = desk(upTo(3), row());
        int[][] wrong = {{0, 4}, {1, 3}, {2, 2}, {3, 1}, {4, 1}, {-1, 1}, {-1, 4}, {1, MOST}, {MOST, 1}, {MOST, MOST},
            {LEAST, 1}, {LEAST, MOST}, {0, 1200}, {0, 1201}};
        for (int[] w : wrong) {
            checks.outside("weak(0, " + w[0] + ", " + w[1] + ")", () -> x.weak(OLD, w[0], w[1]));
            checks.outside("strong(0, " + w[0] + ", " + w[1] + ")", () -> x.strong(OLD, w[0], w[1]));
        }
        checks.outside("weak(1, 0, 1)", () -> x.weak(NEW, 0, 1));
        checks.outside("strong(1, 0, 1)", () -> x.strong(NEW, 0, 1));
        checks.due("weak of all", x.weak(OLD, 0, 3), 6 + 65536 * 10);
        checks.due("strong of all", x.strong(OLD, 0, 3), 0xd0aa6218672cf5abL);
    }

    private static void findGivesTheFirstPlace() {
        DeltaDesk x = desk(repeat(1, 4), row(2, 1, 1, 1, 1, 1, 2, 1, 1, 1, 1));
        checks.due("the first of three places", x.find(4, 64, 0, 0), 1);
        checks.due("the second", x.find(4, 64, 0, 2), 2);
        checks.due("the third, at the very end", x.find(4, 64, 0, 3), 7);
    }

    private static void findBeginsAtFrom() {
        DeltaDesk x = desk(upTo(4), row(1, 2, 3, 4, 1, 2, 3, 4));
        checks.due("from 0", x.find(4, 64, 0, 0), 0);
        checks.due("from 1", x.find(4, 64, 0, 1), 4);
        checks.due("from 4", x.find(4, 64, 0, 4), 4);
        checks.due("from 5", x.find(4, 64, 0, 5), -1);
    }

    private static void findGivesNoneWhereThereIsNone() {
        DeltaDesk x = desk(upTo(4), row(1, 2, 3, 5, 4, 3, 2, 1, 1, 2, 3));
        checks.due("nowhere", x.find(4, 64, 0, 0), -1);
        x.size(NEW, 0);
        checks.due("in none", x.find(4, 64, 0, 0), -1);
    }

    private static void findGivesNoneBeyondTheEnd() {
        DeltaDesk x = desk(upTo(5), upTo(5));
        checks.due("the last octet", x.find(4, 64, 1, 4), 4);
        for (int from : row(5, 6, 1199, 1200, 1201, MOST - 1, MOST)) {
            checks.due("find(4, 64, 1, " + from + ")", x.find(4, 64, 1, from), -1);
            checks.due("find(4, 0, 0, " + from + ")", x.find(4, 0, 0, from), -1);
        }
    }

    private static void findTakesTheLimitsOfBlocksAndBits() {
        DeltaDesk x = desk(upTo(255), upTo(255));
        for (int bits : row(0, 64)) {
            checks.due("find(4, " + bits + ", 1, 0)", x.find(4, bits, 1, 0), 4);
            checks.due("find(256, " + bits + ", 0, 0)", x.find(256, bits, 0, 0), 0);
        }
    }

    private static void findRefusesOtherBlockSizes() {
        DeltaDesk x = desk(upTo(300), upTo(300));
        for (int s : row(3, 257, 1, 0, -1, -4, LEAST, MOST)) {
            checks.illegal("find(" + s + ", 64, 0, 0)", () -> x.find(s, 64, 0, 0));
        }
    }

    private static void findRefusesOtherBits() {
        DeltaDesk x = desk(upTo(8), upTo(8));
        for (int bits : row(-1, 65, 128, LEAST, MOST)) {
            checks.illegal("find(4, " + bits + ", 0, 0)", () -> x.find(4, bits, 0, 0));
        }
    }

    private static void findRefusesWhereThereIsNoSuchBlock() {
        DeltaDesk x = desk(upTo(9), upTo(9));
        checks.due("the last block, of one octet", x.find(4, 64, 2, 0), 8);
        for (int block : row(-1, 3, 300, LEAST, MOST)) {
            checks.outside("find(4, 64, " + block + ", 0)", () -> x.find(4, 64, block, 0));
            checks.outside("find(4, 64, " + block + ", 9), beyond the end too", () -> x.find(4, 64, block, 9));
        }
        x.size(OLD, 8);
        checks.outside("no rest, no block", () -> x.find(4, 64, 2, 0));
        x.size(OLD, 0);
        checks.outside("no octets, no block", () -> x.find(4, 64, 0, 0));
        // Products of these with s wrap round to places that are there.
        x.size(OLD, 1200);
        checks.outside("find(4, 0, 1 << 30, 0)", () -> x.find(4, 0, 1 << 30, 0));
        checks.outside("find(256, 0, 1 << 24, 0)", () -> x.find(256, 0, 1 << 24, 0));
    }

    private static void findRefusesBelowZero() {
        DeltaDesk x = desk(upTo(8), upTo(8));
        for (int from : row(-1, -8, LEAST)) {
            checks.outside("find(4, 64, 0, " + from + ")", () -> x.find(4, 64, 0, from));
        }
    }

    private static void findChangesNothing() {
        DeltaDesk x = desk(upTo(9), row(5, 6, 7, 8, 99));
        x.delta(4, 64);
        String before = state(x);
        x.find(5, 0, 1, 0);
        x.find(256, 64, 0, 1);
        checks.holds("find leaves " + before, state(x).equals(before));
        checks.due("patch behind find", x.patch(), 5);
        rowDue("patch behind find", x, OLD, 5, 6, 7, 8, 99);
    }

    private static void deltaTellsHowManyTokens() {
        DeltaDesk x = desk(upTo(4), row());
        checks.due("delta of a NEW of none", x.delta(4, 64), 0);
        fill(x, NEW, 9);
        checks.due("delta of one octet", x.delta(4, 64), 1);
        fill(x, NEW, 9, 1, 2, 3, 4, 9);
        checks.due("delta of three", x.delta(4, 64), 3);
        checks.due("count(2) of three", x.count(2), 3);
        fill(x, OLD, 7);
        fill(x, NEW, repeat(7, 1200));
        checks.due("delta of the most", x.delta(4, 64), 1200);
        checks.due("count(2) of the most", x.count(2), 1200);
    }

    private static void deltaTakesTheLimitsOfBlocksAndBits() {
        DeltaDesk x = desk(upTo(255), upTo(255));
        for (int bits : row(0, 64)) {
            checks.due("delta(4, " + bits + ")", x.delta(4, bits), 1);
            tokensDue("delta(4, " + bits + ")", x, 0, 0, 64);
            checks.due("delta(256, " + bits + ")", x.delta(256, bits), 1);
            tokensDue("delta(256, " + bits + ")", x, 0, 0, 1);
        }
        fill(x, OLD, upTo(257));
        fill(x, NEW, upTo(257));
        checks.due("delta(256, 64) of 257", x.delta(256, 64), 1);
        tokensDue("delta(256, 64) of 257", x, 0, 0, 2);
    }

    private static void deltaRefusesOtherBlockSizes() {
        DeltaDesk x = desk(upTo(4), upTo(4));
        x.delta(4, 64);
        for (int s : row(3, 257, 1, 0, -1, -4, LEAST, MOST)) {
            checks.illegal("delta(" + s + ", 64)", () -> x.delta(s, 64));
        }
        tokensDue("the latest stays", x, 0, 0, 1);
    }

    private static void deltaRefusesOtherBits() {
        DeltaDesk x = desk(upTo(4), upTo(4));
        x.delta(4, 64);
        for (int bits : row(-1, 65, 128, LEAST, MOST)) {
            checks.illegal("delta(4, " + bits + ")", () -> x.delta(4, bits));
        }
        tokensDue("the latest stays", x, 0, 0, 1);
    }

    private static void tokenTellsTheLatestDelta() {
        DeltaDesk x = desk(upTo(8), row(99, 98, 1, 2, 3, 4, 5, 6, 7, 8, 97));
        x.delta(4, 64);
        tokensDue("the first DELTA", x, 1, 0, 2, 0, 0, 2, 1, 10, 1);
        x.size(OLD, 0);
        x.size(NEW, 0);
        tokensDue("the rows are others", x, 1, 0, 2, 0, 0, 2, 1, 10, 1);
        fill(x, NEW, 5, 6, 7);
        x.delta(4, 64);
        tokensDue("the second DELTA", x, 1, 0, 3);
        checks.outside("a token of the first one", () -> x.token(1, 0));
    }

    private static void tokenRefusesOtherQuestions() {
        DeltaDesk x = desk(upTo(4), upTo(4));
        x.delta(4, 64);
        for (int what : row(-1, 3, LEAST, MOST)) {
            checks.illegal("token(0, " + what + ")", () -> x.token(0, what));
        }
    }

    private static void tokenRefusesWhereThereIsNone() {
        DeltaDesk x = desk(upTo(4), row(1, 2, 3, 4, 9));
        for (int what = 0; what <= 2; what++) {
            int asked = what;
            checks.outside("token(0, " + what + ") without a DELTA", () -> x.token(0, asked));
        }
        x.delta(4, 64);
        checks.due("the last token", x.token(1, 0), 1);
        for (int k : row(-1, 2, 3, 1199, 1200, LEAST, MOST)) {
            for (int what = 0; what <= 2; what++) {
                int asked = what;
                checks.outside("token(" + k + ", " + what + ")", () -> x.token(k, asked));
            }
        }
        x.size(NEW, 0);
        x.delta(4, 64);
        checks.outside("token(0, 0) of a DELTA of none", () -> x.token(0, 0));
    }

    private static void sentOfCopiesAndOctets() {
        DeltaDesk x = desk(repeat(0, 1200), repeat(0, 1200));
        x.delta(4, 64);
        checks.due("a COPY of 300 blocks", x.sent(), 5);
        x.size(OLD, 0);
        x.delta(4, 64);
        checks.due("1200 octets NEW", x.sent(), 1203);
        x.size(OLD, 1);
        x.delta(4, 64);
        checks.due("1200 times COPY", x.sent(), 6000);
        fill(x, OLD, 1, 2, 3, 4);
        fill(x, NEW, 9, 1, 2, 3, 4, 8, 7);
        x.delta(4, 64);
        checks.due("NEW, COPY, NEW", x.sent(), 4 + 5 + 5);
    }

    private static void sentWithoutADelta() {
        DeltaDesk x = desk(upTo(4), upTo(4));
        checks.due("sent() without a DELTA", x.sent(), 0);
        x.size(NEW, 0);
        x.delta(4, 64);
        checks.due("sent() of a DELTA of none", x.sent(), 0);
    }

    private static void sentOfTheLatestDelta() {
        DeltaDesk x = desk(upTo(4), row(1, 2, 3, 4, 9, 9));
        x.delta(4, 64);
        checks.due("sent()", x.sent(), 10);
        fill(x, NEW, 9);
        checks.due("sent() when NEW is another", x.sent(), 10);
        x.patch();
        checks.due("sent() behind patch()", x.sent(), 10);
        x.delta(4, 64);
        checks.due("sent() of the next one", x.sent(), 4);
    }

    private static void patchTakesAllAsItWas() {
        DeltaDesk x = desk(upTo(6), row(5, 6, 99, 1, 2, 3, 4));
        x.delta(4, 64);
        x.put(OLD, 0, -1L);
        checks.due("OLD has changed", x.patch(), 7);
        rowDue("OLD has changed", x, OLD, 5, 6, 99, 1, 2, 3, 4);
        x.put(NEW, 0, -1L);
        x.patch();
        rowDue("NEW has changed", x, OLD, 5, 6, 99, 1, 2, 3, 4);
        x.size(NEW, 0);
        x.size(OLD, 0);
        checks.due("both are none", x.patch(), 7);
        rowDue("both are none", x, OLD, 5, 6, 99, 1, 2, 3, 4);
        rowDue("NEW stays none", x, NEW);
        x.move(OLD, 0, OLD, 1, 6);
        x.patch();
        rowDue("what it made has changed", x, OLD, 5, 6, 99, 1, 2, 3, 4);
    }

    private static void patchWithoutADelta() {
        DeltaDesk x = desk(upTo(6), upTo(3));
        String before = state(x);
        checks.due("patch()", x.patch(), 0);
        checks.holds("patch() without a DELTA leaves " + before, state(x).equals(before));
        x.find(4, 64, 0, 0);
        checks.due("patch() behind find()", x.patch(), 0);
        checks.holds("patch() behind find() leaves " + before, state(x).equals(before));
    }

    private static void patchOfADeltaOfNone() {
        DeltaDesk x = desk(upTo(6), row());
        x.delta(4, 64);
        checks.due("patch()", x.patch(), 0);
        rowDue("patch()", x, OLD);
        checks.holds("both are none", x.same());
        fill(x, OLD, 5);
        x.delta(4, 64);
        fill(x, NEW, 5);
        checks.due("patch() of the latest", x.patch(), 0);
        rowDue("patch() of the latest", x, OLD);
    }

    private static void patchMakesOldShorterAndLonger() {
        DeltaDesk x = desk(repeat(3, 1200), row(8));
        x.delta(4, 64);
        checks.due("1200 to 1", x.patch(), 1);
        rowDue("1200 to 1", x, OLD, 8);
        fill(x, NEW, repeat(8, 1200));
        x.delta(4, 64);
        checks.due("1 to 1200", x.patch(), 1200);
        checks.holds("1 to 1200", x.same());
        x.delta(256, 0);
        checks.due("1200 to 1200", x.patch(), 1200);
        checks.holds("1200 to 1200", x.same());
    }

    private static void patchLeavesNewAndTheDelta() {
        DeltaDesk x = desk(upTo(6), row(5, 6, 99, 1, 2, 3, 4));
        x.delta(4, 64);
        x.patch();
        rowDue("NEW", x, NEW, 5, 6, 99, 1, 2, 3, 4);
        tokensDue("the DELTA", x, 0, 1, 1, 1, 2, 1, 0, 0, 1);
        checks.due("sent()", x.sent(), 14);
        checks.due("patch() once more", x.patch(), 7);
        rowDue("patch() once more", x, OLD, 5, 6, 99, 1, 2, 3, 4);
    }

    private static void sameAsksForLengthsToo() {
        DeltaDesk x = desk(repeat(0, 4), repeat(0, 5));
        checks.holds("OLD is shorter", !x.same());
        x.size(OLD, 6);
        checks.holds("NEW is shorter", !x.same());
        x.size(OLD, 5);
        checks.holds("both are as long", x.same());
        x.size(OLD, 0);
        checks.holds("OLD is none", !x.same());
        x.size(NEW, 0);
        checks.holds("both are none", x.same());
    }

    private static void sameAsksForEachOctet() {
        DeltaDesk x = desk(repeat(0, 1200), repeat(0, 1200));
        checks.holds("full rows", x.same());
        for (int k : row(0, 1, 600, 1198, 1199)) {
            x.size(NEW, k);
            x.size(NEW, k + 1);
            x.put(NEW, k, 1L << 56);
            x.size(NEW, 1200);
            checks.holds("octet " + k + " is another", !x.same());
            x.put(NEW, k, 0L);
            checks.holds("octet " + k + " is the same", x.same());
        }
        // One WEAK is not enough.
        fill(x, OLD, 0, 2, 0);
        fill(x, NEW, 1, 0, 1);
        checks.holds("octets of one WEAK", !x.same());
    }

    private static void sameIgnoresWhatWasCutOff() {
        DeltaDesk x = desk(row(1, 2, 3), row(1, 2, 4));
        x.size(OLD, 2);
        x.size(NEW, 2);
        checks.holds("the rest", x.same());
    }

    private static void countTellsEach() {
        DeltaDesk x = desk(repeat(0, 1200), upTo(7));
        checks.due("count(0)", x.count(0), 1200);
        checks.due("count(1)", x.count(1), 7);
        checks.due("count(2) without a DELTA", x.count(2), 0);
        x.delta(4, 64);
        checks.due("count(2)", x.count(2), 1);
        x.size(NEW, 0);
        checks.due("count(1) of none", x.count(1), 0);
        checks.due("count(2) of the latest", x.count(2), 1);
        x.delta(4, 64);
        checks.due("count(2) of a DELTA of none", x.count(2), 0);
    }

    private static void countRefusesOtherQuestions() {
        DeltaDesk x = desk(upTo(3), upTo(3));
        for (int what : row(-1, 3, LEAST, MOST)) {
            checks.illegal("count(" + what + ")", () -> x.count(what));
        }
    }
}
