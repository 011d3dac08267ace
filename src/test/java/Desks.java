/** What the tests of the promises share: rows are filled, and what stands is compared with what is due. */
abstract class Desks {
    static final int OLD = 0;
    static final int NEW = 1;
    static final int LEAST = Integer.MIN_VALUE;
    static final int MOST = Integer.MAX_VALUE;
    static final int[] NO_ROWS = {-1, 2, LEAST, MOST};
    static final Checks checks = new Checks();

    static DeltaDesk desk(int[] old, int[] fresh) {
        DeltaDesk x = new DeltaDesk();
        fill(x, OLD, old);
        fill(x, NEW, fresh);
        return x;
    }

    static void fill(DeltaDesk x, int r, int... octets) {
        x.size(r, octets.length);
        for (int at = 0; at < octets.length; at += 8) {
            long v = 0;
            for (int i = 0; i < 8; i++) {
                v = v << 8 | (at + i < octets.length ? octets[at + i] : 0);
            }
            x.put(r, at, v);
        }
    }

    static int[] row(int... octets) {
        return octets;
    }

    static int[] repeat(int octet, int n) {
        int[] row = new int[n];
        java.util.Arrays.fill(row, octet);
        return row;
    }

    /** 1, 2, 3 .. n: no two blocks of it are alike while n is below 256. */
    static int[] upTo(int n) {
        int[] row = new int[n];
        for (int k = 0; k < n; k++) {
            row[k] = k + 1 & 255;
        }
        return row;
    }

    static void rowDue(String when, DeltaDesk x, int r, int... want) {
        checks.due(when + ": octets of row " + r, x.count(r), want.length);
        for (int k = 0; k < want.length && k < x.count(r); k++) {
            checks.due(when + ": octet(" + r + ", " + k + ")", x.octet(r, k), want[k]);
        }
    }

    /** Tokens are told as kind, first, how many. */
    static void tokensDue(String when, DeltaDesk x, int... want) {
        checks.due(when + ": count(2)", x.count(2), want.length / 3);
        for (int i = 0; i < want.length && i / 3 < x.count(2); i++) {
            checks.due(when + ": token(" + i / 3 + ", " + i % 3 + ")", x.token(i / 3, i % 3), want[i]);
        }
    }

    /** All that the face tells of a desk with short rows and few tokens. */
    static String state(DeltaDesk x) {
        StringBuilder told = new StringBuilder();
        for (int r = OLD; r <= NEW; r++) {
            told.append(r == OLD ? "OLD" : ", NEW");
            for (int k = 0; k < x.count(r); k++) {
                told.append(' ').append(x.octet(r, k));
            }
        }
        for (int k = 0; k < x.count(2); k++) {
            told.append(", token ").append(x.token(k, 0)).append(' ').append(x.token(k, 1));
            told.append(' ').append(x.token(k, 2));
        }
        return told.append(", sent ").append(x.sent()).append(", same ").append(x.same()).toString();
    }
}
