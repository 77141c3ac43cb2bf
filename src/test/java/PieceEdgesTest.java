import java.util.Arrays;
import java.util.function.Function;

/** Promises 14 to 17: a test for each boundary that a sentence on the pieces names. */
public final class PieceEdgesTest {
    private static final int LEAST = Integer.MIN_VALUE;
    private static final int GREATEST = Integer.MAX_VALUE;

    private PieceEdgesTest() {
    }

    public static void main(String[] args) throws IllegalAccessException {
        Cases.run(PieceEdgesTest.class, 14, 15, 16, 17);
    }

    /** Something is drawn that a refusal must leave, and the tape has n bytes. */
    private static Run tape(int n) {
        return new Run().then(well -> well.derive(0, 100)).tape(n);
    }

    /** Nothing but what is drawn has changed: the tape, the supply and a generator of each sort stay. */
    private static void onlyDraws(int tape, String name, Function<BitWell, Object> piece) {
        Run ahead = new Run().waiting(200);
        for (int kind : new int[] {1, 3, 5, 7}) {
            ahead = ahead.then(well -> well.open(kind, 112, true, 9));
        }
        ahead = ahead.tape(tape);
        Run behind = ahead.then(piece);
        Check.isTrue(name + " draws", behind.made().size() > 0);
        Run drawnAhead = ahead.tape(Check.bytes(3, 1)).then(well -> well.digest(false)).tape(tape);
        drawnAhead.then(piece).sameAs(behind, name + " with bytes drawn ahead");
        ahead.sameButForDrawn(behind, name + " changed");
    }

    // 14: "D of the TAPE (which stays) is DRAWN: SHA-512, or SHA-256: how many bytes."
    // "SHA-256 (d 32, block 64, whole 55) or SHA-512 (d 64, block 128, whole 111)".

    private static void digestOf(boolean great, int n) {
        tape(n).answers(great ? 64 : 32, "digest(" + great + ") of " + n, well -> well.digest(great))
                .drawnIs("digest(" + great + ") of " + n, Oracle.hash(great, Check.bytes(n, 40)))
                .tapeIs(Check.bytes(n, 40));
    }

    static void promise14_anEmptyTape() {
        digestOf(false, 0);
        digestOf(true, 0);
    }

    static void promise14_aFullTape() {
        digestOf(false, 240);
        digestOf(true, 240);
    }

    static void promise14_theMostThatFitsOneBlock() {
        digestOf(false, 55);
        digestOf(true, 111);
    }

    static void promise14_oneMoreThanFitsOneBlock() {
        digestOf(false, 56);
        digestOf(true, 112);
    }

    static void promise14_aroundAWholeBlock() {
        for (int n = -1; n <= 1; n++) {
            digestOf(false, 64 + n);
            digestOf(true, 128 + n);
        }
    }

    static void promise14_aroundTheNextBlocks() {
        for (int n : new int[] {119, 120, 127, 128, 129, 183, 184, 191, 192, 193, 239}) {
            digestOf(false, n);
        }
        digestOf(true, 239);
    }

    static void promise14_oneByte() {
        for (String one : new String[] {"00", "80", "ff"}) {
            byte[] row = {(byte) Integer.parseInt(one, 16)};
            new Run().tape(one).then(well -> well.digest(false)).drawnIs("of " + one, Oracle.hash(false, row));
            new Run().tape(one).then(well -> well.digest(true)).drawnIs("of " + one, Oracle.hash(true, row));
        }
    }

    static void promise14_nothingElseChanges() {
        onlyDraws(50, "digest(false)", well -> well.digest(false));
        onlyDraws(50, "digest(true)", well -> well.digest(true));
    }

    // 15: "The TAPE (which stays) is K, of 16 or 32 bytes, and behind it x: E(K, x) is DRAWN: true;
    // false if it has not just so many bytes."

    private static void cipherIsRefused(boolean great, int n) {
        tape(n).refuses(false, "cipher(" + great + ") of " + n, well -> well.cipher(great));
    }

    private static void cipherOf(boolean great, byte[] tape) {
        int key = great ? 32 : 16;
        new Run().then(well -> well.derive(0, 100)).tape(tape)
                .answers(true, "cipher(" + great + ")", well -> well.cipher(great))
                .drawnIs("E(K, x)", Oracle.encrypt(Arrays.copyOf(tape, key), Arrays.copyOfRange(tape, key, key + 16)))
                .tapeIs(tape);
    }

    static void promise15_anEmptyTape() {
        cipherIsRefused(false, 0);
        cipherIsRefused(true, 0);
    }

    static void promise15_oneByteTooFew() {
        cipherIsRefused(false, 31);
        cipherIsRefused(true, 47);
    }

    static void promise15_justSoMany() {
        cipherOf(false, Check.bytes(32, 40));
        cipherOf(true, Check.bytes(48, 40));
    }

    static void promise15_oneByteTooMany() {
        cipherIsRefused(false, 33);
        cipherIsRefused(true, 49);
    }

    static void promise15_asManyAsTheOtherWants() {
        cipherIsRefused(false, 48);
        cipherIsRefused(true, 32);
    }

    static void promise15_keysAlone() {
        cipherIsRefused(false, 16);
        cipherIsRefused(true, 16);
    }

    static void promise15_aFullTape() {
        cipherIsRefused(false, 240);
        cipherIsRefused(true, 240);
    }

    static void promise15_allBytes0OrFF() {
        for (int b : new int[] {0, 0xFF}) {
            cipherOf(false, Kinds.row(b, 32));
            cipherOf(true, Kinds.row(b, 48));
        }
    }

    static void promise15_nothingElseChanges() {
        onlyDraws(32, "cipher(false)", well -> well.cipher(false));
        onlyDraws(48, "cipher(true)", well -> well.cipher(true));
    }

    // 16: "The TAPE (which stays) is K of d bytes, and m: MAC(K, m) is DRAWN: true; false if it has fewer than d."

    private static void macIsRefused(boolean great, int n) {
        tape(n).refuses(false, "mac(" + great + ") of " + n, well -> well.mac(great));
    }

    private static void macOf(boolean great, byte[] tape) {
        int d = great ? 64 : 32;
        new Run().then(well -> well.derive(0, 100)).tape(tape)
                .answers(true, "mac(" + great + ") of " + tape.length, well -> well.mac(great))
                .drawnIs("MAC(K, m)", Oracle.keyed(great, Arrays.copyOf(tape, d),
                        Arrays.copyOfRange(tape, d, tape.length)))
                .tapeIs(tape);
    }

    static void promise16_anEmptyTape() {
        macIsRefused(false, 0);
        macIsRefused(true, 0);
    }

    static void promise16_oneByteFewerThanD() {
        macIsRefused(false, 31);
        macIsRefused(true, 63);
    }

    static void promise16_theOthersLength() {
        macIsRefused(true, 32);
        macOf(false, Check.bytes(64, 40));
    }

    static void promise16_aKeyAndNothing() {
        macOf(false, Check.bytes(32, 40));
        macOf(true, Check.bytes(64, 40));
    }

    static void promise16_aKeyAndOneByte() {
        macOf(false, Check.bytes(33, 40));
        macOf(true, Check.bytes(65, 40));
    }

    static void promise16_aFullTape() {
        macOf(false, Check.bytes(240, 40));
        macOf(true, Check.bytes(240, 40));
    }

    static void promise16_messagesAroundABlock() {
        for (int n = 54; n <= 57; n++) {
            macOf(false, Check.bytes(32 + n, 40));
        }
        for (int n = 110; n <= 113; n++) {
            macOf(true, Check.bytes(64 + n, 40));
        }
    }

    static void promise16_allBytes0OrFF() {
        for (int b : new int[] {0, 0xFF}) {
            macOf(false, Kinds.row(b, 50));
            macOf(true, Kinds.row(b, 90));
        }
    }

    static void promise16_nothingElseChanges() {
        onlyDraws(90, "mac(false)", well -> well.mac(false));
        onlyDraws(90, "mac(true)", well -> well.mac(true));
    }

    // 17: "DERIVE(TAPE, n) is DRAWN (the TAPE stays), n 1 to 200, by D (sort 0, 1), by E (2, 3): true;
    // false for others."

    private static void deriveIsRefused(int sort, int n) {
        tape(33).refuses(false, "derive(" + sort + ", " + n + ")", well -> well.derive(sort, n));
    }

    private static void deriveOf(int sort, int tape, int n) {
        byte[] m = Check.bytes(tape, 40);
        byte[] want = sort < 2 ? Oracle.deriveByDigest(sort == 1, m, n) : Oracle.deriveByCipher(sort == 3, m, n);
        tape(tape).answers(true, "derive(" + sort + ", " + n + ") of " + tape, well -> well.derive(sort, n))
                .size(n).drawnIs("derive(" + sort + ", " + n + ") of " + tape, want).tapeIs(m);
    }

    static void promise17_sortBelow0() {
        deriveIsRefused(-1, 5);
        deriveIsRefused(LEAST, 5);
    }

    static void promise17_sortAbove3() {
        deriveIsRefused(4, 5);
        deriveIsRefused(GREATEST, 5);
    }

    static void promise17_lengthBelow1() {
        for (int sort = 0; sort < 4; sort++) {
            deriveIsRefused(sort, 0);
            deriveIsRefused(sort, -1);
            deriveIsRefused(sort, LEAST);
        }
    }

    static void promise17_length1() {
        for (int sort = 0; sort < 4; sort++) {
            deriveOf(sort, 33, 1);
        }
    }

    static void promise17_length200() {
        for (int sort = 0; sort < 4; sort++) {
            deriveOf(sort, 33, 199);
            deriveOf(sort, 33, 200);
        }
    }

    static void promise17_lengthAbove200() {
        for (int sort = 0; sort < 4; sort++) {
            deriveIsRefused(sort, 201);
            deriveIsRefused(sort, GREATEST);
        }
    }

    static void promise17_anEmptyTape() {
        for (int sort = 0; sort < 4; sort++) {
            deriveOf(sort, 0, 70);
        }
    }

    static void promise17_aFullTape() {
        for (int sort = 0; sort < 4; sort++) {
            deriveOf(sort, 240, 70);
            deriveOf(sort, 240, 200);
        }
    }

    // "D(N(1, 1) N(8 n, 4) m) D(N(2, 1) N(8 n, 4) m) .., of that the first n bytes."

    static void promise17_aroundWholeDigests() {
        for (int n = -1; n <= 1; n++) {
            deriveOf(0, 33, 32 + n);
            deriveOf(0, 33, 64 + n);
            deriveOf(0, 33, 192 + n);
            deriveOf(1, 33, 64 + n);
            deriveOf(1, 33, 128 + n);
            deriveOf(1, 33, 192 + n);
        }
    }

    static void promise17_bitsOfMoreThanOneByte() {
        // 8 n is 248 and 256.
        deriveOf(0, 33, 31);
        deriveOf(0, 33, 32);
        deriveOf(1, 33, 31);
        deriveOf(1, 33, 32);
    }

    // "S is N(length of m, 4) N(n, 4) m 0x80 and 0s up to a multiple of 16."

    static void promise17_noZerosAreNeeded() {
        for (int tape : new int[] {7, 23, 231}) {
            deriveOf(2, tape, 33);
            deriveOf(3, tape, 33);
        }
    }

    static void promise17_oneZeroIsNeeded() {
        deriveOf(2, 6, 33);
        deriveOf(3, 6, 33);
        deriveOf(2, 230, 33);
    }

    static void promise17_fifteenZerosAreNeeded() {
        deriveOf(2, 8, 33);
        deriveOf(3, 8, 33);
        deriveOf(2, 232, 33);
    }

    // "then x is E(K, x), again and again, these one behind the other: the first n bytes."

    static void promise17_aroundWholeBlocks() {
        for (int n = -1; n <= 1; n++) {
            for (int sort = 2; sort < 4; sort++) {
                deriveOf(sort, 33, 16 + n);
                deriveOf(sort, 33, 32 + n);
                deriveOf(sort, 33, 192 + n);
            }
        }
    }

    static void promise17_nothingElseChanges() {
        for (int sort = 0; sort < 4; sort++) {
            int by = sort;
            onlyDraws(90, "derive(" + sort + ", 77)", well -> well.derive(by, 77));
        }
    }
}
