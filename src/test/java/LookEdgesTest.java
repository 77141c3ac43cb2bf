import java.util.Arrays;

/** Promises 11 to 13 and 18: a test for each boundary that a sentence on looking within names. */
public final class LookEdgesTest {
    private static final int NONE = BitWell.NONE;
    private static final int LEAST = Integer.MIN_VALUE;
    private static final int GREATEST = Integer.MAX_VALUE;

    private LookEdgesTest() {
    }

    public static void main(String[] args) throws IllegalAccessException {
        Cases.run(LookEdgesTest.class, 11, 12, 13, 18);
    }

    private static void drawnIs(Run run, int k, int want) {
        run.refuses(want, "drawn(" + k + ")", well -> well.drawn(k));
    }

    private static void generatorIs(Run run, int g, int what, int want) {
        run.refuses(want, "generator(" + g + ", " + what + ")", well -> well.generator(g, what));
    }

    private static void stateIs(Run run, int g, int part, int k, int want) {
        run.refuses(want, "state(" + g + ", " + part + ", " + k + ")", well -> well.state(g, part, k));
    }

    private static Run digested() {
        return new Run().tape("616263").then(well -> well.digest(false));
    }

    private static Run open(int kind) {
        return Kinds.opened(kind, true, 77, 50).tape(3).then(well -> well.draw(0, 40, 0, false)).tape(4);
    }

    // 11: "Byte k of what was DRAWN; NONE without one."

    static void promise11_nothingDrawn() {
        drawnIs(new Run(), 0, NONE);
        drawnIs(new Run(), -1, NONE);
    }

    static void promise11_below0() {
        drawnIs(digested(), -1, NONE);
        drawnIs(digested(), LEAST, NONE);
    }

    static void promise11_theFirstAndTheLast() {
        drawnIs(digested(), 0, 0xBA);
        drawnIs(digested(), 31, 0xAD);
    }

    static void promise11_oneBehindTheLast() {
        drawnIs(digested(), 32, NONE);
    }

    static void promise11_farBehind() {
        drawnIs(digested(), 4095, NONE);
        drawnIs(digested(), 4096, NONE);
        drawnIs(digested(), GREATEST, NONE);
    }

    static void promise11_theMostThatIsDrawn() {
        Run run = open(6).then(well -> well.draw(0, 4096, 0, false));
        byte[] drawn = run.drawn();
        drawnIs(run, 4095, drawn[4095] & 0xFF);
        drawnIs(run, 4096, NONE);
    }

    static void promise11_aDrawingOfNothing() {
        drawnIs(open(6).then(well -> well.draw(0, 0, 0, false)), 0, NONE);
    }

    static void promise11_bytesOfALongerDrawingAreGone() {
        Run run = digested().then(well -> well.derive(0, 5));
        drawnIs(run, 4, run.drawn()[4] & 0xFF);
        drawnIs(run, 5, NONE);
        drawnIs(run, 31, NONE);
    }

    static void promise11_bytesAre0To255() {
        // SHA-256 of three letters has bytes above 127: they are told as such, not below 0.
        for (int k = 0; k < 32; k++) {
            int b = digested().made().drawn(k);
            Check.isTrue("drawn(" + k + ") is a byte", b >= 0 && b <= 255);
        }
    }

    // 12: "Of a generator: 0 its kind, .. 7 SEEDINGS. NONE for others, without one."

    static void promise12_numberBelow0() {
        generatorIs(open(0), -1, 0, NONE);
        generatorIs(open(0), LEAST, 0, NONE);
    }

    static void promise12_numberAbove3() {
        generatorIs(open(0), 4, 0, NONE);
        generatorIs(open(0), GREATEST, 0, NONE);
    }

    static void promise12_withoutOne() {
        for (int what = -1; what < 9; what++) {
            generatorIs(open(0), 1, what, NONE);
            generatorIs(open(0), 3, what, NONE);
        }
    }

    static void promise12_closed() {
        for (int what = 0; what < 8; what++) {
            generatorIs(open(0).then(well -> well.close(0)), 0, what, NONE);
        }
    }

    static void promise12_whatBelow0() {
        generatorIs(open(0), 0, -1, NONE);
        generatorIs(open(0), 0, LEAST, NONE);
    }

    static void promise12_whatAbove7() {
        generatorIs(open(0), 0, 8, NONE);
        generatorIs(open(0), 0, GREATEST, NONE);
    }

    static void promise12_eachOfEachKind() {
        for (int kind = 0; kind < 8; kind++) {
            int[] want = {kind, 128, 2, 77, 1, Kinds.SEED[kind], 40, 1};
            for (int what = 0; what < 8; what++) {
                generatorIs(open(kind), 0, what, want[what]);
            }
        }
    }

    static void promise12_theLastNumber() {
        Run run = new Run().waiting(84);
        for (int g = 0; g < 4; g++) {
            int interval = g + 1;
            run = run.then(well -> well.open(0, 112, false, interval));
        }
        for (int g = 0; g < 4; g++) {
            run.generator(g, 3, g + 1).generator(g, 4, 0);
        }
    }

    static void promise12_bytesOfThePiecesAreNotDrawnOfIt() {
        Run run = open(0).then(well -> well.digest(true)).then(well -> well.derive(0, 200));
        run.generator(0, 6, 40);
    }

    static void promise12_refusedCallsAreNotCounted() {
        Run run = open(6).tape(33).then(well -> well.draw(0, 5, 0, false)).then(well -> well.reseed(0, true));
        run.generator(0, 2, 2).generator(0, 6, 40).generator(0, 7, 1);
    }

    static void promise12_seedings() {
        Run run = open(0).then(well -> well.reseed(0, false)).generator(0, 7, 2);
        run.then(well -> well.draw(0, 1, 0, true)).generator(0, 7, 3);
    }

    // 13: "Byte k of a generator's STATE: part 0 V, 1 C or K. NONE without one."

    static void promise13_numberBelow0() {
        stateIs(open(0), -1, 0, 0, NONE);
        stateIs(open(0), LEAST, 0, 0, NONE);
    }

    static void promise13_numberAbove3() {
        stateIs(open(0), 4, 0, 0, NONE);
        stateIs(open(0), GREATEST, 0, 0, NONE);
    }

    static void promise13_withoutOne() {
        for (int g = 1; g < 4; g++) {
            stateIs(open(0), g, 0, 0, NONE);
            stateIs(open(0), g, 1, 0, NONE);
        }
    }

    static void promise13_closed() {
        stateIs(open(0).then(well -> well.close(0)), 0, 0, 0, NONE);
        stateIs(open(0).then(well -> well.close(0)), 0, 1, 0, NONE);
    }

    static void promise13_partBelow0() {
        stateIs(open(0), 0, -1, 0, NONE);
        stateIs(open(0), 0, LEAST, 0, NONE);
    }

    static void promise13_partAbove1() {
        stateIs(open(0), 0, 2, 0, NONE);
        stateIs(open(0), 0, GREATEST, 0, NONE);
    }

    static void promise13_byteBelow0() {
        for (int part = 0; part < 2; part++) {
            stateIs(open(0), 0, part, -1, NONE);
            stateIs(open(0), 0, part, LEAST, NONE);
        }
    }

    static void promise13_theLastByteAndOneBehindIt() {
        for (int kind = 0; kind < 8; kind++) {
            int[] lengths = {Kinds.V_LENGTH[kind], Kinds.OTHER_LENGTH[kind]};
            for (int part = 0; part < 2; part++) {
                byte[] state = open(kind).state(0, part);
                Check.same("bytes of part " + part + " of kind " + kind, lengths[part], state.length);
                stateIs(open(kind), 0, part, lengths[part] - 1, state[lengths[part] - 1] & 0xFF);
                stateIs(open(kind), 0, part, lengths[part], NONE);
            }
        }
    }

    static void promise13_byteFarBehind() {
        for (int part = 0; part < 2; part++) {
            stateIs(open(1), 0, part, 240, NONE);
            stateIs(open(1), 0, part, GREATEST, NONE);
        }
    }

    static void promise13_kAndVAreNotOneAnother() {
        byte[] key = Check.bytes(16, 1);
        Run run = Kinds.chosen(6, key, Kinds.row(0xC3, 16));
        stateIs(run, 0, 0, 0, 0xC3);
        stateIs(run, 0, 1, 0, 1);
    }

    // 18: "How many bytes are DRAWN."

    private static void sizeIs(Run run, int want) {
        run.refuses(want, "size()", BitWell::size);
    }

    static void promise18_nothing() {
        sizeIs(new Run(), 0);
    }

    static void promise18_nothingAgain() {
        sizeIs(open(6).size(40).then(well -> well.draw(0, 0, 0, false)), 0);
    }

    static void promise18_one() {
        sizeIs(open(6).then(well -> well.draw(0, 1, 0, false)), 1);
        sizeIs(new Run().then(well -> well.derive(3, 1)), 1);
    }

    static void promise18_theMost() {
        sizeIs(open(6).then(well -> well.draw(0, 4095, 0, false)), 4095);
        sizeIs(open(6).then(well -> well.draw(0, 4096, 0, false)), 4096);
    }

    static void promise18_ofEachPiece() {
        sizeIs(new Run().then(well -> well.digest(false)), 32);
        sizeIs(new Run().then(well -> well.digest(true)), 64);
        sizeIs(new Run().tape(32).then(well -> well.cipher(false)), 16);
        sizeIs(new Run().tape(48).then(well -> well.cipher(true)), 16);
        sizeIs(new Run().tape(32).then(well -> well.mac(false)), 32);
        sizeIs(new Run().tape(64).then(well -> well.mac(true)), 64);
        sizeIs(new Run().then(well -> well.derive(0, 200)), 200);
    }

    static void promise18_callsThatDrawNothingLeaveIt() {
        byte[] drawn = digested().drawn();
        Run run = digested().waiting(100).then(well -> well.open(0, 128, true, 1)).then(well -> well.reseed(0, true));
        run = run.tape(3).then(well -> well.tests(5, 512, 40)).then(well -> well.close(0));
        sizeIs(run, 32);
        Check.isTrue("its bytes, too", Arrays.equals(drawn, run.drawn()));
    }
}
