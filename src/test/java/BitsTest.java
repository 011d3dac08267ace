/** A BLOCK FITS by the lowest so many bits of STRONG: each number of bits is met at its very edge. */
public final class BitsTest extends Desks {
    private static final int GROUPS = 10;
    private static final int OCTETS = 3 * GROUPS;

    /**
     * Pair k tells two rows that have one WEAK and whose STRONG has the lowest k + 1 bits in common and no more.
     * They were searched for beforehand; the search takes minutes, the test itself looks at what they are. There is
     * no pair for no bits, for the lowest bit of STRONG follows from the lowest one of WEAK.
     */
    private static final long[][] PAIRS = {
        {0x62ccb5256c6fec02L, 0x779ec33df39bbaefL}, {0xc905adb7d3654795L, 0x94b7823350b31166L},
        {0x5815087a1bb9f131L, 0xac0e7a4a97515cf1L}, {0x27ecb7b2fb15b7ceL, 0x4150c29c202baa6dL},
        {0x869f755b5a953ea0L, 0xa5195e5939166983L}, {0xb9ca8e271179f8d3L, 0x337634196d6684d9L},
        {0x76af693f3b076eeeL, 0x732747ccb43fdc95L}, {0x82ad0fcf5742f0f1L, 0xd8b61cd4e22b42bbL},
        {0x37393e32a514c8afL, 0x203bc193164fea4eL}, {0x7e8570f016d37632L, 0x20b9ce3f9ed04993L},
        {0x337ecbd23280fe98L, 0xd554a5cc547b26e8L}, {0x791da0f3d996d25aL, 0x759ed59395f80fa5L},
        {0x9e70b824334e76ebL, 0xa6fbd1e4a1922779L}, {0x346aaa846a66e0c3L, 0xa87ebd8f87169061L},
        {0x849c3e0c19eaa1a2L, 0xf583f9164f67a4f9L}, {0x9a1f9596993af75L, 0xa566845259625526L},
        {0x2d3c025faae27cb9L, 0xad2b2f1126a85985L}, {0x1a02b9c5096e4c10L, 0x5b887fee74b86484L},
        {0xa28c95d279a62a53L, 0x826a357f4c4d9155L}, {0x74d59bd0356d124bL, 0x51f392ab6bb4f556L},
        {0xad8bc5d5afbd86a9L, 0xa00b1e68cff86db4L}, {0xc24ec48b39c9b35bL, 0x34541a25314c99baL},
        {0x2fcb979b7421634aL, 0x7e3c9eb1f396f5c1L}, {0xdc743cL, 0xf322d9L},
        {0x11df7f6L, 0x13d2cb6L}, {0x37e6583L, 0x2b48ad0L},
        {0x1c9c03fL, 0x3c17059L}, {0xb657ce4L, 0x263ec2bL},
        {0x6d39333L, 0x1b2f2bdaL}, {0x25af8a67L, 0x18a85e1bL},
        {0x18a9ff54L, 0x4562fe79L}, {0x8969fce2L, 0x80a7b0c5L},
        {0x1a3d56964L, 0xec243addL}, {0x9a6c1a2aL, 0x10b8246a8L},
        {0x23381b9e9L, 0x72589a3d8L}, {0x4a1b3d9d9L, 0x47b979d25L},
        {0xac5d1073eL, 0x1681177e34L}, {0xbec7ae7d0L, 0x32a844976aL},
        {0x259f4d544bL, 0x6e9fdf0ec6L}, {0x4bdb7f6883L, 0xaf0f314b92L},
        {0x9b2aaae44L, 0x1fd002d94d8L}, {0x17df7890decL, 0x1009e3a067bL},
        {0xf6855b524fL, 0x35bc8601785L}, {0x8489313213bL, 0x7043952932fL},
        {0x13ef770f528dL, 0x832a77c2bd1L}, {0xd0ceb79640dL, 0x3cc536a7d825L},
        {0x355356f923a5L, 0x7fddecc6d9ebL}, {0xefcb8948ef47L, 0x672da2d805b9L},
        {0x1e8cc3cc8a13L, 0x685d88fb6eafL}, {0x32c280798eabL, 0x3ac2a84728479L},
        {0x442f683e16621L, 0x1aa8c0d8605dfL}, {0x1938547bbd2afL, 0x39f29f9d799dbL},
        {0x17aa3e379e9bL, 0x4a7222c960a43L}, {0x36c5d758fdbd6fL, 0x9ca6cde52f79dL},
        {0x6e0ed914bcfc09L, 0x47ef38480db8d1L}, {0xdfa9774ed6a3afL, 0x5d5547d8cba763L},
        {0x1e4d1a78cb35507L, 0xa7e8d4fc16b3bfL}, {0x12c7fb5ef7dc97dL, 0x1a6bc9a629a6dedL},
        {0x2d3e5eb36735187L, 0x83a3cb08c91c89L}, {0xdc5a52342adcd63L, 0x7af6012cded9cb3L},
        {0x1e5a238705a3b555L, 0x1c00e1d70988a161L}, {0x3001c57397b19237L, 0xc8518ef739e656fL},
        {0x1e105de368009abfL, 0x6a9b82392279422fL}, {0xc8077bd027835fb9L, 0xa3e7da5043f53507L},
    };

    public static void main(String[] args) {
        for (int k = 0; k < PAIRS.length; k++) {
            DeltaDesk x = desk(rowOf(PAIRS[k][0]), rowOf(PAIRS[k][1]));
            pairIsAsTold(x, k + 1);
            findGoesByTheLowestBits(x, k + 1);
            deltaGoesByTheLowestBits(x, k + 1);
        }
        allBitsMayAgreeThoughOctetsDiffer();
        noBitsAskForWeakAlone();
        checks.end();
    }

    /** Any seven bits t of the number move three octets by t, -2t, t, which leaves WEAK as it is. */
    private static int[] rowOf(long number) {
        int[] row = new int[OCTETS];
        for (int group = 0; group < GROUPS; group++) {
            int t = (int) (number >>> 7 * group & 127) - 63;
            row[3 * group] = 128 + t;
            row[3 * group + 1] = 128 - 2 * t;
            row[3 * group + 2] = 128 + t;
        }
        return row;
    }

    private static void pairIsAsTold(DeltaDesk x, int agree) {
        long differ = x.strong(OLD, 0, OCTETS) ^ x.strong(NEW, 0, OCTETS);
        checks.due("bits of STRONG in common", Long.numberOfTrailingZeros(differ), agree);
        checks.due("WEAK of both", x.weak(OLD, 0, OCTETS), x.weak(NEW, 0, OCTETS));
        checks.holds("both rows differ", !x.same());
    }

    private static void findGoesByTheLowestBits(DeltaDesk x, int agree) {
        for (int bits = 0; bits <= 64; bits++) {
            checks.due(agree + " in common: find(30, " + bits + ", 0, 0)", x.find(OCTETS, bits, 0, 0),
                    bits <= agree ? 0 : -1);
        }
    }

    private static void deltaGoesByTheLowestBits(DeltaDesk x, int agree) {
        for (int bits = 0; bits <= 64; bits++) {
            x.delta(OCTETS, bits);
            checks.due(agree + " in common: delta(30, " + bits + "), token(0, 0)", x.token(0, 0),
                    bits <= agree ? 0 : 1);
        }
    }

    /** What is new is told by sums: octets that differ are not seen where their sums do not. */
    private static void allBitsMayAgreeThoughOctetsDiffer() {
        int[] old = rowOf(PAIRS[63][0]);
        DeltaDesk x = desk(old, rowOf(PAIRS[63][1]));
        checks.due("delta by all bits", x.delta(OCTETS, 64), 1);
        tokensDue("delta by all bits", x, 0, 0, 1);
        checks.due("patch by all bits", x.patch(), OCTETS);
        rowDue("patch by all bits", x, OLD, old);
        checks.holds("both rows still differ", !x.same());
    }

    private static void noBitsAskForWeakAlone() {
        DeltaDesk x = desk(row(0, 2, 0, 0), row(1, 0, 1, 0));
        checks.due("find by no bits", x.find(4, 0, 0, 0), 0);
        checks.due("delta by no bits", x.delta(4, 0), 1);
        tokensDue("delta by no bits", x, 0, 0, 1);
        fill(x, NEW, 1, 0, 0, 1);
        checks.due("find by no bits and another WEAK", x.find(4, 0, 0, 0), -1);
    }
}
