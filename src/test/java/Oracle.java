import java.io.ByteArrayOutputStream;
import java.math.BigInteger;
import java.security.GeneralSecurityException;
import java.security.MessageDigest;
import java.util.ArrayList;
import java.util.Arrays;
import java.util.List;
import javax.crypto.Cipher;
import javax.crypto.Mac;
import javax.crypto.spec.SecretKeySpec;

/** The document once more, told by the digests, MACs and ciphers of the Java library. */
final class Oracle {
    private static final int NONE = -1;

    private byte[] tape = {};
    private byte[] drawn = {};
    private final List<Byte> waiting = new ArrayList<>();
    private final Gen[] gens = new Gen[4];
    private int repeats = 5;
    private int window = 512;
    private int part = 40;
    private boolean unsound = false;
    private Byte last = null;
    private int run = 0;
    private Byte sample = null;
    private int met = 0;
    private int seen = 0;
    private int taken = 0;
    private int failures = 0;

    private static final class Gen {
        int kind;
        int strength;
        int interval;
        boolean resists;
        int count;
        int total;
        int seedings;
        byte[] v;
        byte[] other;

        boolean great() {
            return kind % 2 == 1;
        }

        int seed() {
            return new int[] {55, 111, 32, 64, 32, 48, 32, 48}[kind];
        }

        int keyLength() {
            return great() ? 32 : 16;
        }
    }

    // Pieces.

    static byte[] join(byte[]... rows) {
        ByteArrayOutputStream all = new ByteArrayOutputStream();
        for (byte[] row : rows) {
            all.writeBytes(row);
        }
        return all.toByteArray();
    }

    static byte[] number(long v, int n) {
        byte[] row = new byte[n];
        for (int k = n - 1; k >= 0; k--) {
            row[k] = (byte) v;
            v >>= 8;
        }
        return row;
    }

    static byte[] hash(boolean great, byte[] m) {
        try {
            return MessageDigest.getInstance(great ? "SHA-512" : "SHA-256").digest(m);
        } catch (GeneralSecurityException e) {
            throw new IllegalStateException(e);
        }
    }

    static byte[] keyed(boolean great, byte[] key, byte[] m) {
        try {
            String name = great ? "HmacSHA512" : "HmacSHA256";
            Mac mac = Mac.getInstance(name);
            mac.init(new SecretKeySpec(key, name));
            return mac.doFinal(m);
        } catch (GeneralSecurityException e) {
            throw new IllegalStateException(e);
        }
    }

    static byte[] encrypt(byte[] key, byte[] x) {
        try {
            Cipher aes = Cipher.getInstance("AES/ECB/NoPadding");
            aes.init(Cipher.ENCRYPT_MODE, new SecretKeySpec(key, "AES"));
            return aes.doFinal(x);
        } catch (GeneralSecurityException e) {
            throw new IllegalStateException(e);
        }
    }

    static byte[] deriveByDigest(boolean great, byte[] m, int n) {
        byte[] all = {};
        for (int i = 1; all.length < n; i++) {
            all = join(all, hash(great, join(number(i, 1), number(8L * n, 4), m)));
        }
        return Arrays.copyOf(all, n);
    }

    static byte[] deriveByCipher(boolean great, byte[] m, int n) {
        int keyLength = great ? 32 : 16;
        byte[] s = join(number(m.length, 4), number(n, 4), m, new byte[] {(byte) 0x80});
        s = Arrays.copyOf(s, (s.length + 15) / 16 * 16);
        byte[] j = new byte[keyLength];
        for (int k = 0; k < keyLength; k++) {
            j[k] = (byte) k;
        }
        byte[] t = {};
        for (int i = 0; t.length < keyLength + 16; i++) {
            t = join(t, chain(j, join(number(i, 4), new byte[12], s)));
        }
        byte[] key = Arrays.copyOf(t, keyLength);
        byte[] x = Arrays.copyOfRange(t, keyLength, keyLength + 16);
        byte[] all = {};
        while (all.length < n) {
            x = encrypt(key, x);
            all = join(all, x);
        }
        return Arrays.copyOf(all, n);
    }

    private static byte[] chain(byte[] key, byte[] s) {
        byte[] x = new byte[16];
        for (int from = 0; from < s.length; from += 16) {
            x = encrypt(key, xor(x, Arrays.copyOfRange(s, from, from + 16)));
        }
        return x;
    }

    static byte[] xor(byte[] a, byte[] b) {
        byte[] c = new byte[a.length];
        for (int k = 0; k < a.length; k++) {
            c[k] = (byte) (a[k] ^ b[k]);
        }
        return c;
    }

    static byte[] plus(byte[] a, BigInteger b) {
        BigInteger sum = new BigInteger(1, a).add(b).mod(BigInteger.ONE.shiftLeft(8 * a.length));
        byte[] bytes = sum.toByteArray();
        byte[] row = new byte[a.length];
        for (int k = 1; k <= Math.min(bytes.length, row.length); k++) {
            row[row.length - k] = bytes[bytes.length - k];
        }
        return row;
    }

    private static byte[] plus(byte[] a, byte[] b) {
        return plus(a, new BigInteger(1, b));
    }

    // The tape and the supply.

    int feed(int a, int b, int c, int d, int e) {
        if (tape.length > 220) {
            return NONE;
        }
        tape = join(tape, number(a, 4), number(b, 4), number(c, 4), number(d, 4), number(e, 4));
        return tape.length;
    }

    int end(int n) {
        if (n < 0 || n > tape.length) {
            return NONE;
        }
        tape = Arrays.copyOf(tape, n);
        return n;
    }

    int supply() {
        if (unsound) {
            return NONE;
        }
        if (waiting.size() + tape.length > 1000) {
            return -2;
        }
        byte[] bytes = takeTape();
        for (byte b : bytes) {
            come(b);
            if (unsound) {
                waiting.clear();
                failures++;
                return NONE;
            }
            waiting.add(b);
        }
        return waiting.size();
    }

    private void come(byte b) {
        run = last != null && last == b ? run + 1 : 1;
        last = b;
        unsound = run == repeats;
        if (sample == null) {
            sample = b;
            met = 1;
            seen = 1;
            return;
        }
        if (sample == b) {
            met++;
            unsound |= met == part;
        }
        seen++;
        if (seen == window) {
            sample = null;
        }
    }

    boolean tests(int newRepeats, int newWindow, int newPart) {
        boolean fits = newRepeats >= 2 && newRepeats <= 40 && newWindow >= 16 && newWindow <= 1024
                && newPart >= 2 && newPart <= newWindow;
        if (fits) {
            repeats = newRepeats;
            window = newWindow;
            part = newPart;
            waiting.clear();
            unsound = false;
            last = null;
            run = 0;
            sample = null;
        }
        return fits;
    }

    int source(int what) {
        int[] all = {waiting.size(), unsound ? 1 : 0, run, sample == null ? NONE : sample & 0xFF,
            sample == null ? 0 : met, sample == null ? 0 : seen, taken, failures};
        return what < 0 || what >= all.length ? NONE : all[what];
    }

    private byte[] takeTape() {
        byte[] bytes = tape;
        tape = new byte[0];
        return bytes;
    }

    private byte[] take(int n) {
        byte[] bytes = new byte[n];
        for (int k = 0; k < n; k++) {
            bytes[k] = waiting.remove(0);
        }
        taken += n;
        return bytes;
    }

    // Generators.

    private Gen at(int g) {
        return g < 0 || g > 3 ? null : gens[g];
    }

    int open(int kind, int strength, boolean resists, int interval) {
        if (kind < 0 || kind > 7 || interval < 1 || interval > 100000) {
            return -7;
        }
        int g = Arrays.asList(gens).indexOf(null);
        if (g < 0) {
            return -8;
        }
        if (strength < 1 || strength > (kind == 4 || kind == 6 ? 128 : 256)) {
            return -3;
        }
        Gen one = new Gen();
        one.kind = kind;
        one.strength = strength <= 112 ? 112 : strength <= 128 ? 128 : strength <= 192 ? 192 : 256;
        one.interval = interval;
        one.resists = resists;
        if (kind >= 6 && tape.length > one.seed()) {
            return -4;
        }
        int f = one.strength / 8;
        int wanted = kind >= 6 ? one.seed() : f + f / 2;
        if (waiting.size() < wanted) {
            return -6;
        }
        first(one, take(wanted), takeTape());
        one.count = 1;
        one.seedings = 1;
        gens[g] = one;
        return g;
    }

    private void first(Gen one, byte[] r, byte[] a) {
        if (one.kind < 2) {
            one.v = deriveByDigest(one.great(), join(r, a), one.seed());
            one.other = deriveByDigest(one.great(), join(new byte[1], one.v), one.seed());
        } else if (one.kind < 4) {
            one.other = new byte[one.seed()];
            one.v = new byte[one.seed()];
            Arrays.fill(one.v, (byte) 1);
            mixMac(one, join(r, a));
        } else {
            one.other = new byte[one.keyLength()];
            one.v = new byte[16];
            mixCounter(one, counterMaterial(one, r, a));
        }
    }

    private void anew(Gen one, byte[] r, byte[] a) {
        if (one.kind < 2) {
            one.v = deriveByDigest(one.great(), join(new byte[] {1}, one.v, r, a), one.seed());
            one.other = deriveByDigest(one.great(), join(new byte[1], one.v), one.seed());
        } else if (one.kind < 4) {
            mixMac(one, join(r, a));
        } else {
            mixCounter(one, counterMaterial(one, r, a));
        }
        one.count = 1;
        one.seedings++;
    }

    private static byte[] counterMaterial(Gen one, byte[] r, byte[] a) {
        return one.kind < 6 ? deriveByCipher(one.great(), join(r, a), one.seed())
                : xor(r, Arrays.copyOf(a, one.seed()));
    }

    private static void mixMac(Gen one, byte[] m) {
        one.other = keyed(one.great(), one.other, join(one.v, new byte[] {0}, m));
        one.v = keyed(one.great(), one.other, one.v);
        if (m.length > 0) {
            one.other = keyed(one.great(), one.other, join(one.v, new byte[] {1}, m));
            one.v = keyed(one.great(), one.other, one.v);
        }
    }

    private static void mixCounter(Gen one, byte[] m) {
        byte[] all = xor(count(one, one.seed()), m);
        one.other = Arrays.copyOf(all, one.keyLength());
        one.v = Arrays.copyOfRange(all, one.keyLength(), one.seed());
    }

    private static byte[] count(Gen one, int n) {
        byte[] all = {};
        while (all.length < n) {
            one.v = plus(one.v, BigInteger.ONE);
            all = join(all, encrypt(one.other, one.v));
        }
        return Arrays.copyOf(all, n);
    }

    boolean close(int g) {
        boolean there = at(g) != null;
        if (there) {
            gens[g] = null;
        }
        return there;
    }

    private int refusalToSeed(Gen one, boolean resistance) {
        if (one.kind >= 6 && tape.length > one.seed()) {
            return 4;
        }
        if (resistance && !one.resists) {
            return 5;
        }
        return waiting.size() < freshBytes(one) ? 6 : 0;
    }

    private static int freshBytes(Gen one) {
        return one.kind >= 6 ? one.seed() : one.strength / 8;
    }

    int reseed(int g, boolean resistance) {
        Gen one = at(g);
        if (one == null) {
            return 1;
        }
        int refusal = refusalToSeed(one, resistance);
        if (refusal == 0) {
            anew(one, take(freshBytes(one)), takeTape());
        }
        return refusal;
    }

    int draw(int g, int n, int strength, boolean resistance) {
        Gen one = at(g);
        if (one == null) {
            return 1;
        }
        if (n < 0 || n > 4096) {
            return 2;
        }
        if (strength > one.strength) {
            return 3;
        }
        if (one.kind >= 6 && tape.length > one.seed()) {
            return 4;
        }
        if (resistance || one.count > one.interval) {
            int refusal = refusalToSeed(one, resistance);
            if (refusal != 0) {
                return refusal;
            }
            anew(one, take(freshBytes(one)), takeTape());
        }
        drawn = drawing(one, n, takeTape());
        one.count++;
        one.total += n;
        return 0;
    }

    private static byte[] drawing(Gen one, int n, byte[] a) {
        if (one.kind < 2) {
            return drawByDigest(one, n, a);
        }
        byte[] all = {};
        if (one.kind < 4) {
            if (a.length > 0) {
                mixMac(one, a);
            }
            while (all.length < n) {
                one.v = keyed(one.great(), one.other, one.v);
                all = join(all, one.v);
            }
            mixMac(one, a);
            return Arrays.copyOf(all, n);
        }
        byte[] m = new byte[one.seed()];
        if (a.length > 0) {
            m = one.kind < 6 ? deriveByCipher(one.great(), a, one.seed()) : Arrays.copyOf(a, one.seed());
            mixCounter(one, m);
        }
        all = count(one, n);
        mixCounter(one, m);
        return all;
    }

    private static byte[] drawByDigest(Gen one, int n, byte[] a) {
        if (a.length > 0) {
            one.v = plus(one.v, hash(one.great(), join(new byte[] {2}, one.v, a)));
        }
        byte[] all = {};
        for (int i = 0; all.length < n; i++) {
            all = join(all, hash(one.great(), plus(one.v, BigInteger.valueOf(i))));
        }
        byte[] h = hash(one.great(), join(new byte[] {3}, one.v));
        one.v = plus(plus(plus(one.v, h), one.other), BigInteger.valueOf(one.count));
        return Arrays.copyOf(all, n);
    }

    int generator(int g, int what) {
        Gen one = at(g);
        if (one == null || what < 0 || what > 7) {
            return NONE;
        }
        return new int[] {one.kind, one.strength, one.count, one.interval, one.resists ? 1 : 0, one.seed(),
            one.total, one.seedings}[what];
    }

    int state(int g, int part, int k) {
        Gen one = at(g);
        if (one == null || part < 0 || part > 1) {
            return NONE;
        }
        return byteOf(part == 0 ? one.v : one.other, k);
    }

    // What is drawn, and the pieces that can be asked for.

    private static int byteOf(byte[] row, int k) {
        return k < 0 || k >= row.length ? NONE : row[k] & 0xFF;
    }

    int drawn(int k) {
        return byteOf(drawn, k);
    }

    int size() {
        return drawn.length;
    }

    int digest(boolean great) {
        drawn = hash(great, tape);
        return drawn.length;
    }

    boolean cipher(boolean great) {
        int keyLength = great ? 32 : 16;
        if (tape.length != keyLength + 16) {
            return false;
        }
        drawn = encrypt(Arrays.copyOf(tape, keyLength), Arrays.copyOfRange(tape, keyLength, tape.length));
        return true;
    }

    boolean mac(boolean great) {
        int d = great ? 64 : 32;
        if (tape.length < d) {
            return false;
        }
        drawn = keyed(great, Arrays.copyOf(tape, d), Arrays.copyOfRange(tape, d, tape.length));
        return true;
    }

    boolean derive(int sort, int n) {
        if (sort < 0 || sort > 3 || n < 1 || n > 200) {
            return false;
        }
        drawn = sort < 2 ? deriveByDigest(sort == 1, tape, n) : deriveByCipher(sort == 3, tape, n);
        return true;
    }
}
