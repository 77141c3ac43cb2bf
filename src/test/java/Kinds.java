import java.math.BigInteger;
import java.util.Arrays;

/** The eight kinds of generators in numbers, and runs that have one of them opened. */
final class Kinds {
    static final int[] SEED = {55, 111, 32, 64, 32, 48, 32, 48};
    static final int[] V_LENGTH = {55, 111, 32, 64, 16, 16, 16, 16};
    /** Of C or K. */
    static final int[] OTHER_LENGTH = {55, 111, 32, 64, 16, 32, 16, 32};
    /** How many bytes come out at once. */
    static final int[] BLOCK = {32, 64, 32, 64, 16, 16, 16, 16};
    static final int[] STRENGTHS = {112, 128, 192, 256};

    private Kinds() {
    }

    static int most(int kind) {
        return kind == 4 || kind == 6 ? 128 : 256;
    }

    static boolean great(int kind) {
        return kind % 2 == 1;
    }

    /** The kinds whose A may have SEED bytes at most. */
    static boolean bound(int kind) {
        return kind >= 6;
    }

    static int fresh(int kind, int strength) {
        return bound(kind) ? SEED[kind] : strength / 8;
    }

    static int first(int kind, int strength) {
        return bound(kind) ? SEED[kind] : strength / 8 + strength / 16;
    }

    /** Generator 0 is of this kind and a strength of 128, and so many bytes wait behind its first seeding. */
    static Run opened(int kind, boolean resists, int interval, int waiting) {
        return new Run().waiting(first(kind, 128) + waiting).then(well -> well.open(kind, 128, resists, interval));
    }

    /** Generator 0, behind a drawing: COUNT is 2, and bytes are drawn that a refusal must leave. */
    static Run inUse(int kind, boolean resists, int interval, int waiting) {
        return opened(kind, resists, interval, waiting).tape(3).then(well -> well.draw(0, 40, 0, false));
    }

    /** A generator of kind 6 or 7 whose key and V are these. */
    static Run chosen(int kind, byte[] key, byte[] v) {
        byte[] fresh = Oracle.xor(stream(new byte[key.length], new byte[16], SEED[kind]), Oracle.join(key, v));
        Run run = new Run().supply(fresh);
        run = run.then(well -> well.open(kind, 128, false, 100000));
        return run.stateIs("K that was chosen", 0, 1, key).stateIs("V that was chosen", 0, 0, v);
    }

    /** V and K behind MIX(m). */
    static byte[][] mixedMac(int kind, Run run, byte[] m) {
        byte[] v = run.state(0, 0);
        byte[] k = run.state(0, 1);
        for (int mark = 0; mark < (m.length > 0 ? 2 : 1); mark++) {
            k = Oracle.keyed(great(kind), k, Oracle.join(v, Oracle.number(mark, 1), m));
            v = Oracle.keyed(great(kind), k, v);
        }
        return new byte[][] {v, k};
    }

    /** E(K, V + 1) E(K, V + 2) .., n bytes. */
    static byte[] stream(byte[] key, byte[] v, int n) {
        byte[] all = {};
        for (int k = 1; all.length < n; k++) {
            all = Oracle.join(all, Oracle.encrypt(key, Oracle.plus(v, BigInteger.valueOf(k))));
        }
        return Arrays.copyOf(all, n);
    }

    static byte[] row(int b, int n) {
        byte[] row = new byte[n];
        Arrays.fill(row, (byte) b);
        return row;
    }
}
