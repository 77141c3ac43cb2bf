/**
 * A supply of raw bytes that is tested as it comes, and up to four generators of bits that are seeded from it.
 * The same calls always give the same answers: all bytes come from the tape that the caller feeds.
 */
public final class BitWell {
    public static final int NONE = -1;

    private static final int TAPE_MOST = 240;
    private static final int NUMBER_BYTES = 4;
    private static final int FED_BYTES = 5 * NUMBER_BYTES;
    private static final int DRAWN_MOST = 4096;
    private static final int DERIVED_MOST = 200;
    private static final int GENERATORS = 4;
    private static final int INTERVAL_MOST = 100000;

    private static final int SUPPLY_FULL = -2;

    private static final int NO_GENERATOR = 1;
    private static final int WRONG_LENGTH = 2;
    private static final int WRONG_STRENGTH = 3;
    private static final int TAPE_TOO_LONG = 4;
    private static final int NO_RESISTANCE = 5;
    private static final int SUPPLY_TOO_SMALL = 6;
    private static final int WRONG_KIND_OR_INTERVAL = 7;
    private static final int ALL_OPEN = 8;

    private final Row tape = new Row(TAPE_MOST);
    private final Row output = new Row(DRAWN_MOST);
    private final Supply raw = new Supply();
    private final Desk desk = new Desk();
    private final Generator[] generators = new Generator[GENERATORS];

    public BitWell() {
    }

    public int feed(int a, int b, int c, int d, int e) {
        if (tape.length() + FED_BYTES > TAPE_MOST) {
            return NONE;
        }
        tape.appendNumber(a, NUMBER_BYTES);
        tape.appendNumber(b, NUMBER_BYTES);
        tape.appendNumber(c, NUMBER_BYTES);
        tape.appendNumber(d, NUMBER_BYTES);
        tape.appendNumber(e, NUMBER_BYTES);
        return tape.length();
    }

    public int end(int n) {
        if (n < 0 || n > tape.length()) {
            return NONE;
        }
        tape.cut(n);
        return n;
    }

    public int supply() {
        if (raw.isUnsound()) {
            return NONE;
        }
        if (raw.waiting() + tape.length() > Supply.WAITING_MOST) {
            return SUPPLY_FULL;
        }
        raw.receive(tape);
        tape.clear();
        return raw.isUnsound() ? NONE : raw.waiting();
    }

    public boolean tests(int repeats, int window, int part) {
        return raw.set(repeats, window, part);
    }

    public int source(int what) {
        return raw.look(what);
    }

    public int open(int kind, int strength, boolean resists, int interval) {
        if (kind < 0 || kind >= Generator.KINDS || interval < 1 || interval > INTERVAL_MOST) {
            return -WRONG_KIND_OR_INTERVAL;
        }
        int g = freeNumber();
        if (g == NONE) {
            return -ALL_OPEN;
        }
        if (strength < 1 || strength > Generator.strongest(kind)) {
            return -WRONG_STRENGTH;
        }
        Generator made = makeGenerator(kind, Generator.leastStrength(strength), resists, interval);
        int refusal = refusalToSeed(made, false);
        if (refusal != 0) {
            return -refusal;
        }
        made.plant(raw.give(made.demand()), tape);
        tape.clear();
        generators[g] = made;
        return g;
    }

    public boolean close(int g) {
        Generator one = openOne(g);
        if (one == null) {
            return false;
        }
        one.wipe();
        generators[g] = null;
        return true;
    }

    public int reseed(int g, boolean resistance) {
        Generator one = openOne(g);
        if (one == null) {
            return NO_GENERATOR;
        }
        int refusal = refusalToSeed(one, resistance);
        if (refusal != 0) {
            return refusal;
        }
        one.plant(raw.give(one.demand()), tape);
        tape.clear();
        return 0;
    }

    public int draw(int g, int n, int strength, boolean resistance) {
        Generator one = openOne(g);
        if (one == null) {
            return NO_GENERATOR;
        }
        if (n < 0 || n > DRAWN_MOST) {
            return WRONG_LENGTH;
        }
        if (strength > one.strength) {
            return WRONG_STRENGTH;
        }
        if (resistance || one.isDue()) {
            int refusal = refusalToSeed(one, resistance);
            if (refusal != 0) {
                return refusal;
            }
            one.plant(raw.give(one.demand()), tape);
            // The seeding has had what was given: the drawing behind it goes without.
            tape.clear();
        } else if (one.isTooLong(tape)) {
            return TAPE_TOO_LONG;
        }
        output.clear();
        one.produce(n, tape, output);
        tape.clear();
        return 0;
    }

    public int drawn(int k) {
        return output.at(k);
    }

    public int generator(int g, int what) {
        Generator one = openOne(g);
        return one == null ? NONE : one.look(what);
    }

    public int state(int g, int part, int k) {
        Generator one = openOne(g);
        if (one == null || part < 0 || part > 1) {
            return NONE;
        }
        return part == 0 ? one.v.at(k) : one.other.at(k);
    }

    public int digest(boolean great) {
        desk.digestOf(great).hash(tape, output);
        return output.length();
    }

    public boolean cipher(boolean great) {
        int keyLength = Cipher.keyLength(great);
        if (tape.length() != keyLength + Cipher.BLOCK) {
            return false;
        }
        desk.divide(tape, keyLength);
        desk.cipher.useKey(desk.key);
        desk.cipher.encrypt(desk.message, output);
        return true;
    }

    public boolean mac(boolean great) {
        Digest by = desk.digestOf(great);
        if (tape.length() < by.length) {
            return false;
        }
        desk.divide(tape, by.length);
        by.keyed(desk.key, desk.message, output);
        return true;
    }

    public boolean derive(int sort, int n) {
        if (sort < 0 || sort > 3 || n < 1 || n > DERIVED_MOST) {
            return false;
        }
        boolean great = (sort & 1) == 1;
        if (sort < 2) {
            desk.digestOf(great).stretch(tape, n, output);
        } else {
            desk.cipher.stretch(Cipher.keyLength(great), tape, n, output);
        }
        return true;
    }

    public int size() {
        return output.length();
    }

    private Generator openOne(int g) {
        return g >= 0 && g < GENERATORS ? generators[g] : null;
    }

    private int freeNumber() {
        for (int g = 0; g < GENERATORS; g++) {
            if (generators[g] == null) {
                return g;
            }
        }
        return NONE;
    }

    private Generator makeGenerator(int kind, int strength, boolean resists, int interval) {
        if (kind < Generator.FIRST_MAC) {
            return new DigestGenerator(kind, strength, resists, interval, desk);
        }
        if (kind < Generator.FIRST_COUNTER) {
            return new MacGenerator(kind, strength, resists, interval, desk);
        }
        return new CounterGenerator(kind, strength, resists, interval, desk);
    }

    private int refusalToSeed(Generator one, boolean resistance) {
        if (one.isTooLong(tape)) {
            return TAPE_TOO_LONG;
        }
        if (resistance && !one.resists) {
            return NO_RESISTANCE;
        }
        return one.demand() > raw.waiting() ? SUPPLY_TOO_SMALL : 0;
    }

    /** Bytes, each held as 0 to 255; what would go beyond the room that it was made with is left out. */
    private static final class Row {
        private final int[] bytes;
        private int length = 0;

        Row(int room) {
            bytes = new int[Math.max(room, 0)];
        }

        int length() {
            return length;
        }

        int at(int k) {
            return k >= 0 && k < length ? bytes[k] : NONE;
        }

        void put(int k, int b) {
            if (k >= 0 && k < length) {
                bytes[k] = b & 0xFF;
            }
        }

        void clear() {
            length = 0;
        }

        void cut(int n) {
            if (n >= 0 && n < length) {
                length = n;
            }
        }

        void append(int b) {
            if (length < bytes.length) {
                bytes[length] = b & 0xFF;
                length++;
            }
        }

        void appendNumber(long number, int n) {
            for (int k = n - 1; k >= 0 && length < bytes.length; k--) {
                bytes[length] = (int) (number >>> (8 * k)) & 0xFF;
                length++;
            }
        }

        void appendSame(int b, int times) {
            for (int k = 0; k < times && length < bytes.length; k++) {
                bytes[length] = b & 0xFF;
                length++;
            }
        }

        void appendRow(Row row) {
            appendPart(row, 0, row.length);
        }

        /** The other one's bytes from a place on, n of them or as many as it has there. */
        void appendPart(Row row, int from, int n) {
            int end = Math.min(row.length, from + n);
            for (int k = Math.max(from, 0); k < end && length < bytes.length; k++) {
                bytes[length] = row.bytes[k];
                length++;
            }
        }

        void becomePart(Row row, int from, int n) {
            length = 0;
            appendPart(row, from, n);
        }

        void becomeSame(int b, int times) {
            length = 0;
            appendSame(b, times);
        }

        void dropFirst(int n) {
            if (n < 0 || n > length) {
                return;
            }
            for (int k = n; k < length; k++) {
                bytes[k - n] = bytes[k];
            }
            length -= n;
        }

        /** By exclusive or with the other one's bytes from a place on; where it has none, as with 0s. */
        void xorPart(Row row, int from) {
            for (int k = 0; k < length; k++) {
                int at = from + k;
                if (at >= 0 && at < row.length) {
                    bytes[k] ^= row.bytes[at];
                }
            }
        }

        /** The sum of both as numbers; what goes beyond the length of this one is cut. */
        void plusRow(Row row) {
            int carry = 0;
            for (int k = 1; k <= length; k++) {
                int at = row.length - k;
                carry += bytes[length - k] + (at >= 0 ? row.bytes[at] : 0);
                bytes[length - k] = carry & 0xFF;
                carry >>>= 8;
            }
        }

        void plusNumber(int number) {
            int carry = number;
            for (int k = length - 1; k >= 0; k--) {
                carry += bytes[k];
                bytes[k] = carry & 0xFF;
                carry >>>= 8;
            }
        }

        /** How many bytes were copied: as many as there are, at most what is asked for and what the target holds. */
        int copyTo(int[] target, int most) {
            int n = Math.min(Math.min(length, target.length), most);
            for (int k = 0; k < n; k++) {
                target[k] = bytes[k];
            }
            return n;
        }
    }

    /** The bytes that wait, and the tests that each byte goes through as it comes. */
    private static final class Supply {
        static final int WAITING_MOST = 1000;

        private static final int REPEATS_LEAST = 2;
        private static final int REPEATS_MOST = 40;
        private static final int WINDOW_LEAST = 16;
        private static final int WINDOW_MOST = 1024;
        private static final int PART_LEAST = 2;

        private final Row waiting = new Row(WAITING_MOST);
        private final Row given = new Row(Generator.FRESH_MOST);
        private int repeats = 5;
        private int window = 512;
        private int part = 40;
        private boolean unsound = false;
        private int last = NONE;
        private int run = 0;
        private int sample = NONE;
        private int met = 0;
        private int seen = 0;
        private int taken = 0;
        private int failures = 0;

        int waiting() {
            return waiting.length();
        }

        boolean isUnsound() {
            return unsound;
        }

        boolean set(int newRepeats, int newWindow, int newPart) {
            if (newRepeats < REPEATS_LEAST || newRepeats > REPEATS_MOST) {
                return false;
            }
            if (newWindow < WINDOW_LEAST || newWindow > WINDOW_MOST) {
                return false;
            }
            if (newPart < PART_LEAST || newPart > newWindow) {
                return false;
            }
            repeats = newRepeats;
            window = newWindow;
            part = newPart;
            beginAnew();
            return true;
        }

        private void beginAnew() {
            waiting.clear();
            unsound = false;
            last = NONE;
            run = 0;
            forgetSample();
        }

        void receive(Row bytes) {
            for (int k = 0; k < bytes.length() && !unsound; k++) {
                int b = bytes.at(k);
                boolean repeated = repeatsTooOften(b);
                // The second test counts a byte even if the first one has failed by it.
                boolean frequent = comesTooOften(b);
                if (repeated || frequent) {
                    becomeUnsound();
                } else {
                    waiting.append(b);
                }
            }
        }

        private boolean repeatsTooOften(int b) {
            run = b == last ? run + 1 : 1;
            last = b;
            return run == repeats;
        }

        private boolean comesTooOften(int b) {
            if (sample == NONE) {
                sample = b;
                met = 1;
                seen = 1;
                return false;
            }
            boolean frequent = false;
            if (b == sample) {
                met++;
                frequent = met == part;
            }
            seen++;
            if (seen == window) {
                forgetSample();
            }
            return frequent;
        }

        private void forgetSample() {
            sample = NONE;
            met = 0;
            seen = 0;
        }

        private void becomeUnsound() {
            unsound = true;
            failures++;
            waiting.clear();
        }

        /** The answer is a row of the supply's own, which the next call fills again. */
        Row give(int n) {
            given.becomePart(waiting, 0, n);
            waiting.dropFirst(n);
            taken += given.length();
            return given;
        }

        int look(int what) {
            switch (what) {
                case 0: return waiting.length();
                case 1: return unsound ? 1 : 0;
                case 2: return run;
                case 3: return sample;
                case 4: return met;
                case 5: return seen;
                case 6: return taken;
                case 7: return failures;
                default: return NONE;
            }
        }
    }

    /** D of the document, SHA-256 or SHA-512, with the MAC and the DERIVE that are made of it. */
    private static final class Digest {
        static final int LENGTH_MOST = 64;
        // The longest one is for a MAC: a block of 128, V of 64, one byte, 48 fresh bytes and a tape of 240.
        static final int MESSAGE_MOST = 512;

        private static final int PADDED_MOST = 640;
        private static final int ROUNDS_MOST = 80;
        // Parts of roots of primes, 64 bits of them: SHA-512 uses all, SHA-256 the 32 high ones.
        private static final long[] FIRST = {
            0x6A09E667F3BCC908L, 0xBB67AE8584CAA73BL, 0x3C6EF372FE94F82BL, 0xA54FF53A5F1D36F1L,
            0x510E527FADE682D1L, 0x9B05688C2B3E6C1FL, 0x1F83D9ABFB41BD6BL, 0x5BE0CD19137E2179L
        };
        private static final long[] ROUND = {
            0x428A2F98D728AE22L, 0x7137449123EF65CDL, 0xB5C0FBCFEC4D3B2FL, 0xE9B5DBA58189DBBCL,
            0x3956C25BF348B538L, 0x59F111F1B605D019L, 0x923F82A4AF194F9BL, 0xAB1C5ED5DA6D8118L,
            0xD807AA98A3030242L, 0x12835B0145706FBEL, 0x243185BE4EE4B28CL, 0x550C7DC3D5FFB4E2L,
            0x72BE5D74F27B896FL, 0x80DEB1FE3B1696B1L, 0x9BDC06A725C71235L, 0xC19BF174CF692694L,
            0xE49B69C19EF14AD2L, 0xEFBE4786384F25E3L, 0x0FC19DC68B8CD5B5L, 0x240CA1CC77AC9C65L,
            0x2DE92C6F592B0275L, 0x4A7484AA6EA6E483L, 0x5CB0A9DCBD41FBD4L, 0x76F988DA831153B5L,
            0x983E5152EE66DFABL, 0xA831C66D2DB43210L, 0xB00327C898FB213FL, 0xBF597FC7BEEF0EE4L,
            0xC6E00BF33DA88FC2L, 0xD5A79147930AA725L, 0x06CA6351E003826FL, 0x142929670A0E6E70L,
            0x27B70A8546D22FFCL, 0x2E1B21385C26C926L, 0x4D2C6DFC5AC42AEDL, 0x53380D139D95B3DFL,
            0x650A73548BAF63DEL, 0x766A0ABB3C77B2A8L, 0x81C2C92E47EDAEE6L, 0x92722C851482353BL,
            0xA2BFE8A14CF10364L, 0xA81A664BBC423001L, 0xC24B8B70D0F89791L, 0xC76C51A30654BE30L,
            0xD192E819D6EF5218L, 0xD69906245565A910L, 0xF40E35855771202AL, 0x106AA07032BBD1B8L,
            0x19A4C116B8D2D0C8L, 0x1E376C085141AB53L, 0x2748774CDF8EEB99L, 0x34B0BCB5E19B48A8L,
            0x391C0CB3C5C95A63L, 0x4ED8AA4AE3418ACBL, 0x5B9CCA4F7763E373L, 0x682E6FF3D6B2B8A3L,
            0x748F82EE5DEFB2FCL, 0x78A5636F43172F60L, 0x84C87814A1F0AB72L, 0x8CC702081A6439ECL,
            0x90BEFFFA23631E28L, 0xA4506CEBDE82BDE9L, 0xBEF9A3F7B2C67915L, 0xC67178F2E372532BL,
            0xCA273ECEEA26619CL, 0xD186B8C721C0C207L, 0xEADA7DD6CDE0EB1EL, 0xF57D4F7FEE6ED178L,
            0x06F067AA72176FBAL, 0x0A637DC5A2C898A6L, 0x113F9804BEF90DAEL, 0x1B710B35131C471BL,
            0x28DB77F523047D84L, 0x32CAAB7B40C72493L, 0x3C9EBE0A15C9BEBCL, 0x431D67C49C100D4CL,
            0x4CC5D4BECB3E42B6L, 0x597F299CFC657E2AL, 0x5FCB6FAB3AD6FAECL, 0x6C44198C4A475817L
        };
        // By how many bits words are turned: three each for the two sums over the message, then for those over e and a.
        private static final int[] SMALL_TURNS = {7, 18, 3, 17, 19, 10, 6, 11, 25, 2, 13, 22};
        private static final int[] GREAT_TURNS = {1, 8, 7, 19, 61, 6, 14, 18, 41, 28, 34, 39};

        final int length;
        private final int wordBytes;
        private final int wordBits;
        private final long mask;
        private final int block;
        private final int rounds;
        private final int[] turns;
        private final int[] padded = new int[PADDED_MOST];
        private final long[] h = new long[8];
        private final long[] w = new long[ROUNDS_MOST];
        private final Row input = new Row(MESSAGE_MOST);
        private final Row result = new Row(LENGTH_MOST);

        Digest(boolean great) {
            wordBytes = great ? 8 : 4;
            wordBits = 8 * wordBytes;
            mask = -1L >>> (64 - wordBits);
            length = 8 * wordBytes;
            block = 16 * wordBytes;
            rounds = great ? ROUNDS_MOST : 64;
            turns = great ? GREAT_TURNS : SMALL_TURNS;
        }

        /** The message is read whole before the answer is written, so both may be the same row. */
        void hash(Row message, Row out) {
            int total = pad(message.copyTo(padded, MESSAGE_MOST));
            for (int k = 0; k < 8; k++) {
                h[k] = FIRST[k] >>> (64 - wordBits);
            }
            for (int start = 0; start < total; start += block) {
                spread(start);
                compress();
            }
            out.clear();
            for (int k = 0; k < 8; k++) {
                out.appendNumber(h[k], wordBytes);
            }
        }

        /** Pads what stands behind the first n bytes; the answer is the length then, a number of whole blocks. */
        private int pad(int n) {
            int total = (n + 1 + 2 * wordBytes + block - 1) & -block;
            padded[n] = 0x80;
            for (int k = n + 1; k < total; k++) {
                padded[k] = 0;
            }
            // The number of bits has room for two words, but of so short a message two bytes are enough.
            int bits = 8 * n;
            padded[total - 2] = bits >>> 8;
            padded[total - 1] = bits & 0xFF;
            return total;
        }

        private void spread(int start) {
            if (start < 0 || start > PADDED_MOST - block) {
                return;
            }
            for (int t = 0; t < 16; t++) {
                long word = 0;
                for (int k = 0; k < wordBytes; k++) {
                    word = word << 8 | padded[start + wordBytes * t + k];
                }
                w[t] = word;
            }
            for (int t = 16; t < rounds; t++) {
                long x = w[t - 15];
                long y = w[t - 2];
                long s0 = turned(x, turns[0]) ^ turned(x, turns[1]) ^ x >>> turns[2];
                long s1 = turned(y, turns[3]) ^ turned(y, turns[4]) ^ y >>> turns[5];
                w[t] = (w[t - 16] + s0 + w[t - 7] + s1) & mask;
            }
        }

        private void compress() {
            long a = h[0];
            long b = h[1];
            long c = h[2];
            long d = h[3];
            long e = h[4];
            long f = h[5];
            long g = h[6];
            long z = h[7];
            for (int t = 0; t < rounds; t++) {
                long s1 = turned(e, turns[6]) ^ turned(e, turns[7]) ^ turned(e, turns[8]);
                long t1 = z + s1 + (e & f ^ ~e & g) + (ROUND[t] >>> (64 - wordBits)) + w[t];
                long s0 = turned(a, turns[9]) ^ turned(a, turns[10]) ^ turned(a, turns[11]);
                long t2 = s0 + (a & b ^ a & c ^ b & c);
                z = g;
                g = f;
                f = e;
                e = (d + t1) & mask;
                d = c;
                c = b;
                b = a;
                a = (t1 + t2) & mask;
            }
            h[0] = (h[0] + a) & mask;
            h[1] = (h[1] + b) & mask;
            h[2] = (h[2] + c) & mask;
            h[3] = (h[3] + d) & mask;
            h[4] = (h[4] + e) & mask;
            h[5] = (h[5] + f) & mask;
            h[6] = (h[6] + g) & mask;
            h[7] = (h[7] + z) & mask;
        }

        private long turned(long x, int n) {
            return (x >>> n | x << (wordBits - n)) & mask;
        }

        /** The key and the message are read before the answer is written, so it may be the row of either. */
        void keyed(Row key, Row message, Row out) {
            beginWithKey(key, 0x36);
            input.appendRow(message);
            hash(input, result);
            beginWithKey(key, 0x5C);
            input.appendRow(result);
            hash(input, out);
        }

        private void beginWithKey(Row key, int filler) {
            input.clear();
            for (int k = 0; k < block; k++) {
                int b = k < key.length() ? key.at(k) : 0;
                input.append(b ^ filler);
            }
        }

        /** The message is read before the answer is written, so both may be the same row. */
        void stretch(Row message, int n, Row out) {
            input.clear();
            input.append(0);
            input.appendNumber(8L * n, 4);
            input.appendRow(message);
            out.clear();
            for (int i = 1; i <= n && out.length() < n; i++) {
                input.put(0, i);
                hash(input, result);
                out.appendPart(result, 0, n - out.length());
            }
        }
    }

    /** E of the document, with the DERIVE that is made of it. */
    private static final class Cipher {
        static final int BLOCK = 16;

        private static final int SMALL_KEY = 16;
        private static final int GREAT_KEY = 32;
        private static final int SCHEDULE_MOST = 240;
        private static final int[] BOX = {
            0x63, 0x7C, 0x77, 0x7B, 0xF2, 0x6B, 0x6F, 0xC5, 0x30, 0x01, 0x67, 0x2B, 0xFE, 0xD7, 0xAB, 0x76,
            0xCA, 0x82, 0xC9, 0x7D, 0xFA, 0x59, 0x47, 0xF0, 0xAD, 0xD4, 0xA2, 0xAF, 0x9C, 0xA4, 0x72, 0xC0,
            0xB7, 0xFD, 0x93, 0x26, 0x36, 0x3F, 0xF7, 0xCC, 0x34, 0xA5, 0xE5, 0xF1, 0x71, 0xD8, 0x31, 0x15,
            0x04, 0xC7, 0x23, 0xC3, 0x18, 0x96, 0x05, 0x9A, 0x07, 0x12, 0x80, 0xE2, 0xEB, 0x27, 0xB2, 0x75,
            0x09, 0x83, 0x2C, 0x1A, 0x1B, 0x6E, 0x5A, 0xA0, 0x52, 0x3B, 0xD6, 0xB3, 0x29, 0xE3, 0x2F, 0x84,
            0x53, 0xD1, 0x00, 0xED, 0x20, 0xFC, 0xB1, 0x5B, 0x6A, 0xCB, 0xBE, 0x39, 0x4A, 0x4C, 0x58, 0xCF,
            0xD0, 0xEF, 0xAA, 0xFB, 0x43, 0x4D, 0x33, 0x85, 0x45, 0xF9, 0x02, 0x7F, 0x50, 0x3C, 0x9F, 0xA8,
            0x51, 0xA3, 0x40, 0x8F, 0x92, 0x9D, 0x38, 0xF5, 0xBC, 0xB6, 0xDA, 0x21, 0x10, 0xFF, 0xF3, 0xD2,
            0xCD, 0x0C, 0x13, 0xEC, 0x5F, 0x97, 0x44, 0x17, 0xC4, 0xA7, 0x7E, 0x3D, 0x64, 0x5D, 0x19, 0x73,
            0x60, 0x81, 0x4F, 0xDC, 0x22, 0x2A, 0x90, 0x88, 0x46, 0xEE, 0xB8, 0x14, 0xDE, 0x5E, 0x0B, 0xDB,
            0xE0, 0x32, 0x3A, 0x0A, 0x49, 0x06, 0x24, 0x5C, 0xC2, 0xD3, 0xAC, 0x62, 0x91, 0x95, 0xE4, 0x79,
            0xE7, 0xC8, 0x37, 0x6D, 0x8D, 0xD5, 0x4E, 0xA9, 0x6C, 0x56, 0xF4, 0xEA, 0x65, 0x7A, 0xAE, 0x08,
            0xBA, 0x78, 0x25, 0x2E, 0x1C, 0xA6, 0xB4, 0xC6, 0xE8, 0xDD, 0x74, 0x1F, 0x4B, 0xBD, 0x8B, 0x8A,
            0x70, 0x3E, 0xB5, 0x66, 0x48, 0x03, 0xF6, 0x0E, 0x61, 0x35, 0x57, 0xB9, 0x86, 0xC1, 0x1D, 0x9E,
            0xE1, 0xF8, 0x98, 0x11, 0x69, 0xD9, 0x8E, 0x94, 0x9B, 0x1E, 0x87, 0xE9, 0xCE, 0x55, 0x28, 0xDF,
            0x8C, 0xA1, 0x89, 0x0D, 0xBF, 0xE6, 0x42, 0x68, 0x41, 0x99, 0x2D, 0x0F, 0xB0, 0x54, 0xBB, 0x16
        };

        private final int[] schedule = new int[SCHEDULE_MOST];
        private final int[] now = new int[BLOCK];
        private final int[] shifted = new int[BLOCK];
        private int rounds = 0;
        private final Row text = new Row(Digest.MESSAGE_MOST);
        private final Row parts = new Row(GREAT_KEY + BLOCK);
        private final Row key = new Row(GREAT_KEY);
        private final Row x = new Row(BLOCK);

        static int keyLength(boolean great) {
            return great ? GREAT_KEY : SMALL_KEY;
        }

        /** The key has 16 or 32 bytes. */
        void useKey(Row newKey) {
            int n = keyLength(newKey.length() == GREAT_KEY);
            rounds = n / 4 + 6;
            newKey.copyTo(schedule, n);
            int constant = 1;
            for (int k = n; k < BLOCK * (rounds + 1); k += 4) {
                // Both key lengths are powers of two, so the mask leaves the place within a key's length.
                int place = k & (n - 1);
                extendSchedule(k, n, place);
                if (place == 0) {
                    schedule[k] ^= constant;
                    constant = twice(constant);
                }
            }
        }

        private void extendSchedule(int k, int n, int place) {
            boolean replaced = place == 0 || place == SMALL_KEY;
            for (int j = 0; j < 4; j++) {
                int b = schedule[k - 4 + (place == 0 ? j + 1 & 3 : j)];
                schedule[k + j] = schedule[k - n + j] ^ (replaced ? BOX[b & 0xFF] : b);
            }
        }

        /** The block is read before the answer is written, so both may be the same row. */
        void encrypt(Row block, Row out) {
            block.copyTo(now, BLOCK);
            addKey(0);
            for (int round = 1; round < rounds; round++) {
                replaceAndShift();
                mixColumns();
                addKey(round);
            }
            replaceAndShift();
            for (int k = 0; k < BLOCK; k++) {
                now[k] = shifted[k];
            }
            addKey(rounds);
            out.clear();
            for (int k = 0; k < BLOCK; k++) {
                out.append(now[k]);
            }
        }

        private void addKey(int round) {
            for (int k = 0; k < BLOCK; k++) {
                now[k] ^= schedule[BLOCK * round + k];
            }
        }

        private void replaceAndShift() {
            for (int k = 0; k < BLOCK; k++) {
                // Four bytes are a column: byte r of one comes from the column r further on, which 5 k tells.
                shifted[k] = BOX[now[5 * k & 15] & 0xFF];
            }
        }

        private void mixColumns() {
            for (int k = 0; k < BLOCK; k++) {
                int column = k & 12;
                int b = shifted[column | k + 1 & 3];
                int c = shifted[column | k + 2 & 3];
                int d = shifted[column | k + 3 & 3];
                now[k] = twice(shifted[k] ^ b) ^ b ^ c ^ d;
            }
        }

        private static int twice(int b) {
            return b << 1 ^ (b >> 7) * 0x11B;
        }

        /** The message is read before the answer is written, so both may be the same row. */
        void stretch(int keyLength, Row message, int n, Row out) {
            fillText(message, n);
            key.clear();
            for (int k = 0; k < keyLength; k++) {
                key.append(k);
            }
            useKey(key);
            parts.clear();
            for (int i = 0; i * BLOCK < keyLength + BLOCK; i++) {
                chainText(i);
                parts.appendRow(x);
            }
            key.becomePart(parts, 0, keyLength);
            x.becomePart(parts, keyLength, BLOCK);
            useKey(key);
            out.clear();
            for (int i = 0; i < n && out.length() < n; i++) {
                encrypt(x, x);
                out.appendPart(x, 0, n - out.length());
            }
        }

        private void fillText(Row message, int n) {
            text.clear();
            text.appendNumber(message.length(), 4);
            text.appendNumber(n, 4);
            text.appendRow(message);
            text.append(0x80);
            text.appendSame(0, -text.length() & (BLOCK - 1));
        }

        private void chainText(int number) {
            x.clear();
            x.appendNumber(number, 4);
            x.appendSame(0, BLOCK - 4);
            encrypt(x, x);
            for (int from = 0; from < text.length(); from += BLOCK) {
                x.xorPart(text, from);
                encrypt(x, x);
            }
        }
    }

    /** What all generators work with, made once so that no drawing makes rows of its own. */
    private static final class Desk {
        final Cipher cipher = new Cipher();
        final Row key = new Row(Digest.LENGTH_MOST);
        final Row message = new Row(Digest.MESSAGE_MOST);
        final Row material = new Row(Digest.MESSAGE_MOST);
        final Row block = new Row(Digest.LENGTH_MOST);
        private final Digest small = new Digest(false);
        private final Digest great = new Digest(true);

        Digest digestOf(boolean isGreat) {
            return isGreat ? great : small;
        }

        void divide(Row tape, int keyLength) {
            key.becomePart(tape, 0, keyLength);
            message.becomePart(tape, keyLength, tape.length());
        }

        void join(Row first, Row second) {
            material.clear();
            material.appendRow(first);
            material.appendRow(second);
        }
    }

    private abstract static class Generator {
        static final int KINDS = 8;
        static final int FIRST_MAC = 2;
        static final int FIRST_COUNTER = 4;
        static final int FIRST_WITHOUT_DERIVING = 6;
        static final int FRESH_MOST = 48;

        private static final int[] STRENGTHS = {112, 128, 192, 256};
        private static final int[] STRONGEST = {256, 256, 256, 256, 128, 256, 128, 256};
        /** SEED of each kind; of a MAC the length of its digest. */
        private static final int[] SEED_LENGTHS = {55, 111, 32, 64, 32, 48, 32, 48};

        final int strength;
        final boolean resists;
        final int seedLength;
        final Row v;
        /** C of a digest's generator, K of the others. */
        final Row other;
        final Desk desk;
        private final int kind;
        private final int interval;
        private int count = 0;
        private int drawnInAll = 0;
        private int seedings = 0;

        Generator(int kind, int strength, boolean resists, int interval, Desk desk) {
            this.kind = kind;
            this.strength = strength;
            this.resists = resists;
            this.interval = interval;
            this.desk = desk;
            seedLength = seedLengthOf(kind);
            boolean counts = kind >= FIRST_COUNTER;
            v = new Row(counts ? Cipher.BLOCK : seedLength);
            other = new Row(counts ? seedLength - Cipher.BLOCK : seedLength);
        }

        /** The first seeding, or one anew if there was one. */
        abstract void plant(Row fresh, Row given);

        /** Appends n bytes to a row that is empty. */
        abstract void produce(int n, Row given, Row out);

        static int strongest(int kind) {
            return kind >= 0 && kind < KINDS ? STRONGEST[kind] : 0;
        }

        static int leastStrength(int wanted) {
            for (int k = 0; k < STRENGTHS.length; k++) {
                if (STRENGTHS[k] >= wanted) {
                    return STRENGTHS[k];
                }
            }
            return NONE;
        }

        private static int seedLengthOf(int kind) {
            return kind >= 0 && kind < KINDS ? SEED_LENGTHS[kind] : 0;
        }

        static boolean isGreat(int kind) {
            return (kind & 1) == 1;
        }

        final boolean derives() {
            return kind < FIRST_WITHOUT_DERIVING;
        }

        final boolean isNew() {
            return seedings == 0;
        }

        final boolean isDue() {
            return count > interval;
        }

        final boolean isTooLong(Row given) {
            return !derives() && given.length() > seedLength;
        }

        /** How many bytes the next seeding takes. */
        final int demand() {
            if (!derives()) {
                return seedLength;
            }
            int bytes = strength / 8;
            return isNew() ? bytes + bytes / 2 : bytes;
        }

        final int count() {
            return count;
        }

        final void noteSeeding() {
            count = 1;
            seedings++;
        }

        final void noteDrawing(int n) {
            count++;
            drawnInAll += n;
        }

        final void wipe() {
            v.becomeSame(0, v.length());
            other.becomeSame(0, other.length());
        }

        final int look(int what) {
            switch (what) {
                case 0: return kind;
                case 1: return strength;
                case 2: return count;
                case 3: return interval;
                case 4: return resists ? 1 : 0;
                case 5: return seedLength;
                case 6: return drawnInAll;
                case 7: return seedings;
                default: return NONE;
            }
        }
    }

    private static final class DigestGenerator extends Generator {
        private final Digest by;

        DigestGenerator(int kind, int strength, boolean resists, int interval, Desk desk) {
            super(kind, strength, resists, interval, desk);
            by = desk.digestOf(isGreat(kind));
        }

        void plant(Row fresh, Row given) {
            desk.message.clear();
            if (!isNew()) {
                beginMessage(0x01);
            }
            desk.message.appendRow(fresh);
            desk.message.appendRow(given);
            by.stretch(desk.message, seedLength, v);
            beginMessage(0x00);
            by.stretch(desk.message, seedLength, other);
            noteSeeding();
        }

        void produce(int n, Row given, Row out) {
            if (given.length() > 0) {
                beginMessage(0x02);
                desk.message.appendRow(given);
                addDigest();
            }
            Row counter = desk.material;
            counter.becomePart(v, 0, v.length());
            for (int i = 0; i < n && out.length() < n; i++) {
                by.hash(counter, desk.block);
                out.appendPart(desk.block, 0, n - out.length());
                counter.plusNumber(1);
            }
            beginMessage(0x03);
            addDigest();
            v.plusRow(other);
            v.plusNumber(count());
            noteDrawing(n);
        }

        private void beginMessage(int mark) {
            desk.message.clear();
            desk.message.append(mark);
            desk.message.appendRow(v);
        }

        private void addDigest() {
            by.hash(desk.message, desk.block);
            v.plusRow(desk.block);
        }
    }

    private static final class MacGenerator extends Generator {
        private final Digest by;

        MacGenerator(int kind, int strength, boolean resists, int interval, Desk desk) {
            super(kind, strength, resists, interval, desk);
            by = desk.digestOf(isGreat(kind));
        }

        void plant(Row fresh, Row given) {
            if (isNew()) {
                other.becomeSame(0x00, seedLength);
                v.becomeSame(0x01, seedLength);
            }
            desk.join(fresh, given);
            mix(desk.material);
            noteSeeding();
        }

        void produce(int n, Row given, Row out) {
            if (given.length() > 0) {
                mix(given);
            }
            for (int i = 0; i < n && out.length() < n; i++) {
                by.keyed(other, v, v);
                out.appendPart(v, 0, n - out.length());
            }
            mix(given);
            noteDrawing(n);
        }

        private void mix(Row material) {
            int rounds = material.length() > 0 ? 2 : 1;
            for (int mark = 0; mark < rounds; mark++) {
                desk.message.clear();
                desk.message.appendRow(v);
                desk.message.append(mark);
                desk.message.appendRow(material);
                by.keyed(other, desk.message, other);
                by.keyed(other, v, v);
            }
        }
    }

    private static final class CounterGenerator extends Generator {
        private final Cipher by;
        private final int keyLength;

        CounterGenerator(int kind, int strength, boolean resists, int interval, Desk desk) {
            super(kind, strength, resists, interval, desk);
            by = desk.cipher;
            keyLength = seedLength - Cipher.BLOCK;
        }

        void plant(Row fresh, Row given) {
            if (isNew()) {
                other.becomeSame(0, keyLength);
                v.becomeSame(0, Cipher.BLOCK);
            }
            Row material = desk.material;
            if (derives()) {
                desk.join(fresh, given);
                by.stretch(keyLength, material, seedLength, material);
            } else {
                material.becomePart(fresh, 0, seedLength);
                material.xorPart(given, 0);
            }
            mix(material);
            noteSeeding();
        }

        void produce(int n, Row given, Row out) {
            // Left empty or short, it is mixed in as if 0s stood behind it.
            Row material = desk.material;
            material.becomePart(given, 0, given.length());
            if (given.length() > 0) {
                if (derives()) {
                    by.stretch(keyLength, given, seedLength, material);
                }
                mix(material);
            }
            by.useKey(other);
            for (int i = 0; i < n && out.length() < n; i++) {
                v.plusNumber(1);
                by.encrypt(v, desk.block);
                out.appendPart(desk.block, 0, n - out.length());
            }
            mix(material);
            noteDrawing(n);
        }

        private void mix(Row material) {
            by.useKey(other);
            Row mixed = desk.message;
            mixed.clear();
            for (int have = 0; have < seedLength; have += Cipher.BLOCK) {
                v.plusNumber(1);
                by.encrypt(v, desk.block);
                mixed.appendRow(desk.block);
            }
            mixed.xorPart(material, 0);
            other.becomePart(mixed, 0, keyLength);
            v.becomePart(mixed, keyLength, Cipher.BLOCK);
        }
    }
}
