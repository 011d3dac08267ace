import java.math.BigInteger;
import java.util.function.Consumer;

/** For each sentence of the document's Terms that names a limit: a test of its own, told by the sentence's words. */
public final class TermsTest extends Desks {
    private static final long AT_FIRST = -3750763034362895579L;
    private static final long FACTOR = 1099511628211L;

    public static void main(String[] args) {
        rowsHaveNoOctetsAtFirst();
        rowsHaveUpTo1200Octets();
        weakTakesTheLowest16BitsOfTheSum();
        weakTakesTheLowest16BitsOfTheWeightedSum();
        weakKeepsBothHalvesApart();
        strongIsNotZeroAtFirst();
        strongWraps();
        strongMultipliesBehindTheExclusiveOr();
        blocksStandOneBehindTheOther();
        theLastBlockIsOfWhatIsLeft();
        theLastBlockMayStandBeforeTheOthers();
        aBlockFitsOnlyWhereAsManyOctetsAre();
        octetsThatWereCutOffDoNotFit();
        aBlockFitsOnlyByItsOwnWeak();
        aBlockFitsByTheLowest16BitsOfItsWeak();
        theDeltaIsOfBothAsTheyAre();
        theBlockBehindIsTakenBeforeTheLeast();
        behindTheLastBlockThereIsNone();
        behindAnOctetNewTheLeastIsTaken();
        theBlockBehindThatDoesNotFitYieldsToTheLeast();
        aBlockTakenIsSkippedWhole();
        theDeltaGoesToTheEnd();
        blocksNotOneBehindTheOtherAreTokensOfTheirOwn();
        blocksApartInNewAreTokensOfTheirOwn();
        octetsNewApartAreTokensOfTheirOwn();
        theExceptionNamedFirstIsThrown();
        whatThrowsChangesNothing();
        whatThrowsMakesNoDelta();
        the512thCallIsAnswered();
        checks.end();
    }

    private static void rowsHaveNoOctetsAtFirst() {
        DeltaDesk x = new DeltaDesk();
        for (int r = OLD; r <= NEW; r++) {
            int which = r;
            checks.due("octets of row " + r + " at first", x.count(r), 0);
            checks.outside("octet(" + r + ", 0) at first", () -> x.octet(which, 0));
        }
    }

    private static void rowsHaveUpTo1200Octets() {
        for (int r = OLD; r <= NEW; r++) {
            int which = r;
            DeltaDesk x = new DeltaDesk();
            x.size(r, 1200);
            checks.due("octets of a full row", x.count(r), 1200);
            x.put(r, 1199, -1L);
            checks.due("the last octet of a full row", x.octet(r, 1199), 255);
            checks.outside("an octet beyond a full row", () -> x.octet(which, 1200));
            checks.illegal("a row of 1201", () -> x.size(which, 1201));
            checks.due("octets behind the refusal", x.count(r), 1200);
        }
    }

    private static void weakTakesTheLowest16BitsOfTheSum() {
        DeltaDesk x = desk(repeat(255, 258), row());
        checks.due("a of 257 times 255", x.weak(OLD, 0, 257) & 65535, 65535);
        x.put(OLD, 257, 1L << 56);
        checks.due("a of 257 times 255 and a 1", x.weak(OLD, 0, 258) & 65535, 0);
        x.put(OLD, 257, 2L << 56);
        checks.due("a of 257 times 255 and a 2", x.weak(OLD, 0, 258) & 65535, 1);
    }

    private static void weakTakesTheLowest16BitsOfTheWeightedSum() {
        // The first of 257 octets counts 257 times: 257 * 255 = 65535.
        DeltaDesk x = desk(repeat(0, 257), row());
        x.put(OLD, 0, 255L << 56);
        checks.due("b is 65535", x.weak(OLD, 0, 257), 255 + 65536 * 65535);
        x.put(OLD, 256, 1L << 56);
        checks.due("b is 65536", x.weak(OLD, 0, 257), 256);
        x.put(OLD, 256, 2L << 56);
        checks.due("b is 65537", x.weak(OLD, 0, 257), 257 + 65536);
        // 129 * 254 + 2 = 32768: the highest bit of the answer.
        fill(x, OLD, repeat(0, 129));
        x.put(OLD, 0, 254L << 56);
        x.put(OLD, 128, 1L << 56);
        checks.due("b is 32767", x.weak(OLD, 0, 129), 255 + 65536 * 32767);
        x.put(OLD, 128, 2L << 56);
        checks.due("b is 32768", x.weak(OLD, 0, 129), 256 + LEAST);
    }

    private static void weakKeepsBothHalvesApart() {
        DeltaDesk x = desk(repeat(255, 1200), row());
        for (int n = 256; n <= 1200; n += 59) {
            int a = 255 * n % 65536;
            int b = (int) (255L * n * (n + 1) / 2 % 65536);
            checks.due("the low half of weak of " + n, x.weak(OLD, 1200 - n, n) & 65535, a);
            checks.due("the high half of weak of " + n, x.weak(OLD, 1200 - n, n) >>> 16, b);
        }
    }

    private static void strongIsNotZeroAtFirst() {
        DeltaDesk x = desk(row(5), row());
        checks.due("strong of none", x.strong(OLD, 0, 0), AT_FIRST);
        checks.due("strong of none of an empty row", x.strong(NEW, 0, 0), AT_FIRST);
    }

    private static void strongWraps() {
        DeltaDesk x = desk(repeat(255, 1200), row());
        BigInteger sum = BigInteger.valueOf(AT_FIRST);
        for (int n = 1; n <= 300; n++) {
            sum = sum.xor(BigInteger.valueOf(255)).multiply(BigInteger.valueOf(FACTOR));
            sum = BigInteger.valueOf(sum.longValue());
            checks.due("strong of " + n, x.strong(OLD, 1200 - n, n), sum.longValue());
        }
    }

    private static void strongMultipliesBehindTheExclusiveOr() {
        DeltaDesk x = desk(row(128, 7), row());
        long one = (AT_FIRST ^ 128L) * FACTOR;
        checks.due("strong of 128", x.strong(OLD, 0, 1), one);
        checks.due("strong of 128 7", x.strong(OLD, 0, 2), (one ^ 7L) * FACTOR);
    }

    private static void blocksStandOneBehindTheOther() {
        DeltaDesk x = desk(upTo(20), upTo(20));
        for (int block = 0; block < 5; block++) {
            checks.due("where block " + block + " of 4 fits", x.find(4, 64, block, 0), 4 * block);
        }
    }

    /** Both how many blocks there are and how long the last one is, for every rest. */
    private static void theLastBlockIsOfWhatIsLeft() {
        for (int length = 1; length <= 16; length++) {
            DeltaDesk x = desk(upTo(length), upTo(length));
            int last = (length - 1) / 5;
            checks.due("the last block of " + length, x.find(5, 64, last, 0), 5 * last);
            checks.outside("the block behind it, of " + length, () -> x.find(5, 64, last + 1, 0));
            x.delta(5, 64);
            tokensDue("the blocks of " + length, x, 0, 0, last + 1);
            x.size(NEW, length - 1);
            checks.due("one octet fewer, of " + length, x.find(5, 64, last, 0), -1);
        }
        DeltaDesk full = desk(repeat(0, 1200), repeat(0, 1200));
        checks.due("block 299 of 4", full.find(4, 64, 299, 1196), 1196);
        checks.outside("block 300 of 4", () -> full.find(4, 64, 300, 0));
        checks.due("block 4 of 256", full.find(256, 64, 4, 1024), 1024);
        checks.due("block 4 of 256 has 176 octets", full.find(256, 64, 4, 1025), -1);
        checks.outside("block 5 of 256", () -> full.find(256, 64, 5, 0));
    }

    /** The places go on by the few octets of the last block, to where the longer blocks must be seen again. */
    private static void theLastBlockMayStandBeforeTheOthers() {
        for (int rest = 1; rest <= 5; rest++) {
            DeltaDesk x = desk(upTo(10 + rest), repeat(0, 10 + 2 * rest));
            x.move(OLD, 10, NEW, 0, rest);
            x.move(OLD, 0, NEW, rest, 10 + rest);
            x.delta(5, 64);
            tokensDue("a last block of " + rest + " before the others", x, 0, 2, 1, 0, 0, 3);
        }
    }

    private static void aBlockFitsOnlyWhereAsManyOctetsAre() {
        // Octets of 0 beyond the end would have the same sums, were they there.
        DeltaDesk x = desk(repeat(0, 4), repeat(0, 4));
        checks.due("find where four are", x.find(4, 64, 0, 0), 0);
        checks.due("find where three are", x.find(4, 64, 0, 1), -1);
        x.size(NEW, 3);
        checks.due("find in three", x.find(4, 64, 0, 0), -1);
        checks.due("find in three by no bits", x.find(4, 0, 0, 0), -1);
        x.delta(4, 0);
        tokensDue("the delta of three", x, 1, 0, 3);
    }

    private static void octetsThatWereCutOffDoNotFit() {
        DeltaDesk x = desk(upTo(8), upTo(8));
        x.size(NEW, 7);
        checks.due("find of a block cut off", x.find(4, 64, 1, 0), -1);
        x.delta(4, 64);
        tokensDue("the delta of a block cut off", x, 0, 0, 1, 1, 4, 3);
    }

    private static void aBlockFitsOnlyByItsOwnWeak() {
        // The lowest bit of STRONG is the same for both, a of WEAK too; b is not.
        DeltaDesk x = desk(row(1, 0, 0, 0), row(0, 1, 0, 0));
        checks.due("the lowest bit of STRONG", (x.strong(OLD, 0, 4) ^ x.strong(NEW, 0, 4)) & 1, 0);
        for (int bits = 0; bits <= 1; bits++) {
            checks.due("find by another b and " + bits + " bits", x.find(4, bits, 0, 0), -1);
            x.delta(4, bits);
            tokensDue("the delta by another b and " + bits + " bits", x, 1, 0, 4);
        }
        // b of both is 4; a is not.
        fill(x, NEW, 0, 0, 2, 0);
        checks.due("find by another a", x.find(4, 0, 0, 0), -1);
        // 0 2 0 and 1 0 1 have one WEAK.
        fill(x, OLD, 0, 2, 0, 0);
        fill(x, NEW, 1, 0, 1, 0);
        checks.due("find by the same WEAK", x.find(4, 0, 0, 0), 0);
    }

    private static void aBlockFitsByTheLowest16BitsOfItsWeak() {
        // a of both is 512, b of OLD is greater by 512 * 128 = 65536.
        DeltaDesk x = desk(repeat(0, 256), repeat(0, 256));
        x.put(OLD, 0, 0xffff020000000000L);
        x.put(NEW, 128, 0xffff020000000000L);
        checks.due("find by a b greater by 65536", x.find(256, 0, 0, 0), 0);
        checks.due("find by it and all bits", x.find(256, 64, 0, 0), -1);
        x.put(NEW, 128, 0x00ffff0200000000L);
        checks.due("find by a b greater by 66048", x.find(256, 0, 0, 0), -1);
        // The sums wrap many times on the way to the only place.
        fill(x, OLD, repeat(255, 256));
        x.put(OLD, 255, 254L << 56);
        fill(x, NEW, repeat(255, 1200));
        x.put(NEW, 1199, 254L << 56);
        for (int bits = 0; bits <= 64; bits += 32) {
            checks.due("find far behind by " + bits, x.find(256, bits, 0, 0), 944);
            checks.due("find from the place itself by " + bits, x.find(256, bits, 0, 944), 944);
            x.delta(256, bits);
            tokensDue("the delta of what is far behind by " + bits, x, 1, 0, 944, 0, 0, 1);
        }
    }

    private static void theDeltaIsOfBothAsTheyAre() {
        DeltaDesk x = desk(upTo(4), upTo(4));
        x.delta(4, 64);
        tokensDue("at first", x, 0, 0, 1);
        x.put(OLD, 0, 0L);
        x.delta(4, 64);
        tokensDue("when OLD is another", x, 1, 0, 4);
        x.put(NEW, 0, 0L);
        x.delta(4, 64);
        tokensDue("when NEW is another", x, 0, 0, 1);
        fill(x, OLD, 0, 0, 0, 0, 0);
        x.delta(4, 64);
        tokensDue("when OLD is longer", x, 0, 0, 1);
        fill(x, NEW, 0, 0, 0);
        x.delta(4, 64);
        tokensDue("when NEW is shorter", x, 0, 1, 1, 0, 1, 1, 0, 1, 1);
        x.size(OLD, 0);
        x.delta(4, 64);
        tokensDue("when OLD is none", x, 1, 0, 3);
    }

    private static void theBlockBehindIsTakenBeforeTheLeast() {
        DeltaDesk x = desk(repeat(1, 8), repeat(1, 8));
        x.delta(4, 64);
        tokensDue("two blocks alike", x, 0, 0, 2);
        // The last block is shorter than block 0, which fits as well, and is yet taken.
        fill(x, OLD, repeat(1, 10));
        fill(x, NEW, repeat(1, 12));
        x.delta(4, 64);
        tokensDue("a shorter block behind", x, 0, 0, 3, 0, 2, 1);
    }

    private static void behindTheLastBlockThereIsNone() {
        DeltaDesk x = desk(row(1, 1, 1, 1, 2, 2, 2, 2), row(1, 1, 1, 1, 2, 2, 2, 2, 1, 1, 1, 1, 2, 2, 2, 2));
        x.delta(4, 64);
        tokensDue("behind the last the least", x, 0, 0, 2, 0, 0, 2);
        fill(x, OLD, 1, 1, 1, 1, 2);
        fill(x, NEW, 2, 1, 1, 1, 1);
        x.delta(4, 64);
        tokensDue("behind a short last the least", x, 0, 1, 1, 0, 0, 1);
        fill(x, NEW, 2, 3);
        x.delta(4, 64);
        tokensDue("behind the last an octet NEW", x, 0, 1, 1, 1, 1, 1);
    }

    private static void behindAnOctetNewTheLeastIsTaken() {
        // Blocks 0, 2 are alike; block 2 is the one behind block 1, but an octet NEW stands between.
        DeltaDesk x = desk(row(1, 1, 1, 1, 2, 2, 2, 2, 1, 1, 1, 1), row(2, 2, 2, 2, 9, 1, 1, 1, 1));
        x.delta(4, 64);
        tokensDue("behind an octet NEW", x, 0, 1, 1, 1, 4, 1, 0, 0, 1);
    }

    private static void theBlockBehindThatDoesNotFitYieldsToTheLeast() {
        DeltaDesk x = desk(row(3, 3, 3, 3, 1, 1, 1, 1, 2, 2, 2, 2, 3, 3, 3, 3), row(1, 1, 1, 1, 3, 3, 3, 3));
        x.delta(4, 64);
        tokensDue("the block behind is another", x, 0, 1, 1, 0, 0, 1);
    }

    private static void aBlockTakenIsSkippedWhole() {
        // Block 1 would fit at place 2 too, within the octets that block 0 takes.
        DeltaDesk x = desk(row(1, 2, 3, 4, 3, 4, 5, 6), row(1, 2, 3, 4, 5, 6));
        checks.due("where block 1 fits", x.find(4, 64, 1, 0), 2);
        x.delta(4, 64);
        tokensDue("block 0 and what is left", x, 0, 0, 1, 1, 4, 2);
    }

    private static void theDeltaGoesToTheEnd() {
        DeltaDesk x = desk(row(), repeat(7, 1200));
        x.delta(256, 64);
        tokensDue("all octets NEW", x, 1, 0, 1200);
        fill(x, OLD, 7);
        checks.due("a token for each octet", x.delta(256, 64), 1200);
        checks.due("the last token's block", x.token(1199, 1), 0);
        x.size(OLD, 1200);
        x.move(NEW, 0, OLD, 0, 1200);
        x.delta(256, 64);
        tokensDue("all blocks, the last one short", x, 0, 0, 5);
    }

    private static void blocksNotOneBehindTheOtherAreTokensOfTheirOwn() {
        DeltaDesk x = desk(row(1, 1, 1, 1, 2, 2, 2, 2, 3, 3, 3, 3), row(1, 1, 1, 1, 1, 1, 1, 1));
        x.delta(4, 64);
        tokensDue("the same number twice", x, 0, 0, 1, 0, 0, 1);
        fill(x, NEW, 1, 1, 1, 1, 3, 3, 3, 3);
        x.delta(4, 64);
        tokensDue("a number left out", x, 0, 0, 1, 0, 2, 1);
        fill(x, NEW, 2, 2, 2, 2, 1, 1, 1, 1);
        x.delta(4, 64);
        tokensDue("the number before", x, 0, 1, 1, 0, 0, 1);
        fill(x, NEW, 1, 1, 1, 1, 2, 2, 2, 2, 3, 3, 3, 3);
        x.delta(4, 64);
        tokensDue("numbers one behind the other", x, 0, 0, 3);
    }

    private static void blocksApartInNewAreTokensOfTheirOwn() {
        DeltaDesk x = desk(upTo(8), row(1, 2, 3, 4, 99, 5, 6, 7, 8));
        x.delta(4, 64);
        tokensDue("an octet NEW between", x, 0, 0, 1, 1, 4, 1, 0, 1, 1);
    }

    private static void octetsNewApartAreTokensOfTheirOwn() {
        DeltaDesk x = desk(upTo(4), row(97, 98, 1, 2, 3, 4, 99));
        x.delta(4, 64);
        tokensDue("a block between", x, 1, 0, 2, 0, 0, 1, 1, 6, 1);
        // What begins at 1 must not be joined with block 0, though 0 + 1 is 1.
        fill(x, OLD, 5);
        fill(x, NEW, 5, 6, 5);
        x.delta(4, 64);
        tokensDue("kinds are not mixed", x, 0, 0, 1, 1, 1, 1, 0, 0, 1);
        fill(x, OLD, 1, 1, 1, 1, 5);
        fill(x, NEW, 6, 5);
        x.delta(4, 64);
        tokensDue("kinds are not mixed the other way", x, 1, 0, 1, 0, 1, 1);
    }

    private static void theExceptionNamedFirstIsThrown() {
        DeltaDesk x = desk(upTo(4), upTo(4));
        checks.illegal("put: row, place", () -> x.put(2, 4, 0L));
        checks.illegal("move: row r, place from", () -> x.move(2, 5, NEW, 0, 1));
        checks.illegal("move: row r, place to", () -> x.move(2, 0, NEW, 5, 1));
        checks.illegal("move: row r, n", () -> x.move(-1, 0, NEW, 0, -1));
        checks.illegal("move: row t, place from", () -> x.move(OLD, 5, 2, 0, 1));
        checks.illegal("move: row t, place to", () -> x.move(OLD, 0, 2, 5, 1));
        checks.illegal("move: row t, n", () -> x.move(OLD, 0, -1, 0, -1));
        checks.illegal("octet: row, place", () -> x.octet(2, 4));
        checks.illegal("weak: row, n", () -> x.weak(2, 0, -1));
        checks.illegal("weak: row, too many", () -> x.weak(2, 0, 5));
        checks.illegal("strong: row, n", () -> x.strong(2, 0, -1));
        checks.illegal("strong: row, too many", () -> x.strong(2, 0, 5));
        checks.illegal("find: s, block", () -> x.find(3, 0, 1, 0));
        checks.illegal("find: s, from", () -> x.find(257, 0, 0, -1));
        checks.illegal("find: bits, block", () -> x.find(4, 65, 1, 0));
        checks.illegal("find: bits, from", () -> x.find(4, -1, 0, -1));
        checks.illegal("find: s 0, by which nothing can be divided", () -> x.find(0, 0, 1, 0));
        checks.illegal("token: what, k without a DELTA", () -> x.token(0, 3));
        x.delta(4, 64);
        checks.illegal("token: what, k", () -> x.token(1, -1));
        checks.illegal("token: what, k below 0", () -> x.token(-1, 3));
    }

    /** Each call of the face that is refused, for a desk whose rows have 9 and 7 octets and whose DELTA has 3 TOKENS. */
    private static Object[][] refused() {
        return new Object[][] {
            {"size(2, 1)", call(x -> x.size(2, 1))}, {"size(-1, 1)", call(x -> x.size(-1, 1))},
            {"size(0, -1)", call(x -> x.size(0, -1))}, {"size(1, -1)", call(x -> x.size(1, -1))},
            {"size(0, 1201)", call(x -> x.size(0, 1201))}, {"size(1, 1201)", call(x -> x.size(1, 1201))},
            {"put(2, 0, -1)", call(x -> x.put(2, 0, -1L))}, {"put(-1, 0, -1)", call(x -> x.put(-1, 0, -1L))},
            {"put(0, 9, -1)", call(x -> x.put(0, 9, -1L))}, {"put(1, 7, -1)", call(x -> x.put(1, 7, -1L))},
            {"put(0, -1, -1)", call(x -> x.put(0, -1, -1L))}, {"put(1, -4, -1)", call(x -> x.put(1, -4, -1L))},
            {"move(2, 0, 0, 1, 2)", call(x -> x.move(2, 0, 0, 1, 2))},
            {"move(0, 0, 2, 1, 2)", call(x -> x.move(0, 0, 2, 1, 2))},
            {"move(0, 0, 1, 1, -1)", call(x -> x.move(0, 0, 1, 1, -1))},
            {"move(0, 0, 1, 0, 8)", call(x -> x.move(0, 0, 1, 0, 8))},
            {"move(1, 0, 0, 0, 8)", call(x -> x.move(1, 0, 0, 0, 8))},
            {"move(0, 1, 0, 2, 8)", call(x -> x.move(0, 1, 0, 2, 8))},
            {"move(0, -1, 1, 0, 3)", call(x -> x.move(0, -1, 1, 0, 3))},
            {"move(0, 0, 1, -1, 3)", call(x -> x.move(0, 0, 1, -1, 3))},
            {"octet(2, 0)", call(x -> x.octet(2, 0))}, {"octet(0, 9)", call(x -> x.octet(0, 9))},
            {"weak(2, 0, 1)", call(x -> x.weak(2, 0, 1))}, {"weak(0, 0, 10)", call(x -> x.weak(0, 0, 10))},
            {"strong(2, 0, 1)", call(x -> x.strong(2, 0, 1))}, {"strong(1, 1, 7)", call(x -> x.strong(1, 1, 7))},
            {"find(3, 0, 0, 0)", call(x -> x.find(3, 0, 0, 0))}, {"find(4, 65, 0, 0)", call(x -> x.find(4, 65, 0, 0))},
            {"find(4, 0, 3, 0)", call(x -> x.find(4, 0, 3, 0))}, {"find(4, 0, 0, -1)", call(x -> x.find(4, 0, 0, -1))},
            {"delta(3, 0)", call(x -> x.delta(3, 0))}, {"delta(257, 0)", call(x -> x.delta(257, 0))},
            {"delta(4, -1)", call(x -> x.delta(4, -1))}, {"delta(4, 65)", call(x -> x.delta(4, 65))},
            {"token(0, 3)", call(x -> x.token(0, 3))}, {"token(3, 0)", call(x -> x.token(3, 0))},
            {"token(-1, 0)", call(x -> x.token(-1, 0))}, {"count(3)", call(x -> x.count(3))},
            {"count(-1)", call(x -> x.count(-1))},
        };
    }

    private static Consumer<DeltaDesk> call(Consumer<DeltaDesk> call) {
        return call;
    }

    /** The rows have changed since the DELTA was made, so that a DELTA made anew would be another one. */
    private static DeltaDesk deskWithDelta() {
        DeltaDesk x = desk(upTo(8), row(97, 1, 2, 3, 4, 98));
        x.delta(4, 64);
        fill(x, OLD, 9, 8, 7, 6, 5, 4, 3, 2, 1);
        fill(x, NEW, 9, 8, 7, 6, 44, 55, 66);
        return x;
    }

    @SuppressWarnings("unchecked")
    private static void whatThrowsChangesNothing() {
        String before = state(deskWithDelta());
        for (Object[] call : refused()) {
            DeltaDesk x = deskWithDelta();
            Class<?> thrown = Checks.thrown(() -> ((Consumer<DeltaDesk>) call[1]).accept(x));
            checks.holds(call[0] + " is refused", thrown != null);
            checks.holds(call[0] + " changes nothing: " + state(x) + ", before: " + before, state(x).equals(before));
            checks.due(call[0] + ", then patch()", x.patch(), 6);
            rowDue(call[0] + ", then patch()", x, OLD, 97, 1, 2, 3, 4, 98);
            x.size(OLD, 12);
            rowDue(call[0] + ", then size(0, 12)", x, OLD, 97, 1, 2, 3, 4, 98, 0, 0, 0, 0, 0, 0);
        }
    }

    @SuppressWarnings("unchecked")
    private static void whatThrowsMakesNoDelta() {
        for (Object[] call : refused()) {
            DeltaDesk x = desk(upTo(9), upTo(7));
            Checks.thrown(() -> ((Consumer<DeltaDesk>) call[1]).accept(x));
            checks.due(call[0] + ", then count(2)", x.count(2), 0);
            checks.due(call[0] + ", then patch() without a DELTA", x.patch(), 0);
            rowDue(call[0] + ", then patch() without a DELTA", x, OLD, upTo(9));
        }
    }

    /** An object is used for at most 512 calls: the last one is as good as the first, the dearest before it too. */
    private static void the512thCallIsAnswered() {
        DeltaDesk x = new DeltaDesk();
        x.size(OLD, 1199);
        x.size(NEW, 1200);
        for (int call = 3; call <= 511; call++) {
            checks.due("call " + call + ", delta(4, 64)", x.delta(4, 64), 2);
        }
        checks.due("call 512, patch()", x.patch(), 1200);
    }
}
