import java.util.Arrays;

/** Promises 14 to 18, and 11 where no generator is needed: what is drawn by digest, cipher, MAC and DERIVE. */
public final class PiecesTest {
    public static void main(String[] args) {
        digestsOfEveryLength();
        ciphersNeedJustSoMany();
        macsOfEveryLength();
        derivesOfEveryLength();
        derivesOfEveryTape();
        deriveRefusesOthers();
        refusalsKeepWhatIsDrawn();
        drawnOfOthers();
        Check.finish();
    }

    private static void digestsOfEveryLength() {
        for (int n = 0; n <= 240; n++) {
            BitWell well = new BitWell();
            byte[] tape = Check.bytes(n, n);
            Check.tape(well, tape);
            for (boolean great : new boolean[] {true, false}) {
                Check.same("digest(" + great + ")", great ? 64 : 32, well.digest(great));
                Check.same("size()", great ? 64 : 32, well.size());
                Check.same("digest of " + n, Check.hex(Oracle.hash(great, tape)), Check.drawn(well));
            }
            Check.same("the tape stays", n, well.end(n));
        }
    }

    private static void ciphersNeedJustSoMany() {
        for (int n = 0; n <= 240; n++) {
            BitWell well = new BitWell();
            byte[] tape = Check.bytes(n, 5 * n);
            Check.tape(well, tape);
            Check.same("cipher(false) of " + n, n == 32, well.cipher(false));
            if (n == 32) {
                Check.same("AES-128", Check.hex(Oracle.encrypt(Arrays.copyOf(tape, 16),
                        Arrays.copyOfRange(tape, 16, 32))), Check.drawn(well));
            }
            Check.same("size()", n == 32 ? 16 : 0, well.size());
            Check.same("cipher(true) of " + n, n == 48, well.cipher(true));
            if (n == 48) {
                Check.same("AES-256", Check.hex(Oracle.encrypt(Arrays.copyOf(tape, 32),
                        Arrays.copyOfRange(tape, 32, 48))), Check.drawn(well));
            }
            Check.same("the tape stays", n, well.end(n));
        }
    }

    private static void macsOfEveryLength() {
        for (int n = 0; n <= 240; n++) {
            BitWell well = new BitWell();
            byte[] tape = Check.bytes(n, 3 * n);
            Check.tape(well, tape);
            for (boolean great : new boolean[] {false, true}) {
                int d = great ? 64 : 32;
                Check.same("mac(" + great + ") of " + n, n >= d, well.mac(great));
                if (n >= d) {
                    Check.same("MAC of " + n, Check.hex(Oracle.keyed(great, Arrays.copyOf(tape, d),
                            Arrays.copyOfRange(tape, d, n))), Check.drawn(well));
                }
            }
            Check.same("size()", n >= 64 ? 64 : n >= 32 ? 32 : 0, well.size());
            Check.same("the tape stays", n, well.end(n));
        }
    }

    private static String derived(int sort, byte[] tape, int n) {
        return Check.hex(sort < 2 ? Oracle.deriveByDigest(sort == 1, tape, n)
                : Oracle.deriveByCipher(sort == 3, tape, n));
    }

    private static void derivesOfEveryLength() {
        byte[] tape = Check.bytes(33, 1);
        for (int n = 1; n <= 200; n++) {
            for (int sort = 0; sort < 4; sort++) {
                BitWell well = new BitWell();
                Check.tape(well, tape);
                Check.same("derive(" + sort + ", " + n + ")", true, well.derive(sort, n));
                Check.same("size()", n, well.size());
                Check.same("derive(" + sort + ", " + n + ")", derived(sort, tape, n), Check.drawn(well));
                Check.same("the tape stays", 33, well.end(33));
            }
        }
    }

    private static void derivesOfEveryTape() {
        for (int n = 0; n <= 240; n++) {
            BitWell well = new BitWell();
            byte[] tape = Check.bytes(n, n + 9);
            Check.tape(well, tape);
            for (int sort = 0; sort < 4; sort++) {
                Check.same("derive(" + sort + ", 70)", true, well.derive(sort, 70));
                Check.same("derive(" + sort + ", 70) of " + n, derived(sort, tape, 70), Check.drawn(well));
            }
        }
    }

    private static void deriveRefusesOthers() {
        BitWell well = new BitWell();
        int[][] wrong = {{-1, 5}, {4, 5}, {0, 0}, {1, 0}, {2, 0}, {3, 0}, {0, 201}, {1, 201}, {2, 201}, {3, 201},
            {0, -1}, {2, -1}, {Integer.MIN_VALUE, 5}, {Integer.MAX_VALUE, 5}, {0, Integer.MIN_VALUE},
            {2, Integer.MAX_VALUE}};
        for (int[] one : wrong) {
            Check.same("derive(" + one[0] + ", " + one[1] + ")", false, well.derive(one[0], one[1]));
            Check.same("size()", 0, well.size());
        }
    }

    private static void refusalsKeepWhatIsDrawn() {
        BitWell well = new BitWell();
        Check.tape(well, "616263");
        well.digest(false);
        String drawn = Check.drawn(well);
        Check.same("cipher(false)", false, well.cipher(false));
        Check.same("mac(true)", false, well.mac(true));
        Check.same("derive(4, 1)", false, well.derive(4, 1));
        Check.same("draw without a generator", 1, well.draw(0, 5, 0, false));
        Check.same("what is drawn", drawn, Check.drawn(well));
    }

    private static void drawnOfOthers() {
        BitWell well = new BitWell();
        well.digest(true);
        for (int k : new int[] {-1, 64, 65, 4096, Integer.MIN_VALUE, Integer.MAX_VALUE}) {
            Check.same("drawn(" + k + ")", BitWell.NONE, well.drawn(k));
        }
        well.derive(0, 1);
        Check.same("a shorter one stands in its place", 1, well.size());
        Check.same("drawn(1)", BitWell.NONE, well.drawn(1));
    }
}
