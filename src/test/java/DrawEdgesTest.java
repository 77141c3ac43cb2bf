import java.math.BigInteger;
import java.util.Arrays;

/** Promise 10: a test for each boundary that a sentence on drawing names. */
public final class DrawEdgesTest {
    private static final int LEAST = Integer.MIN_VALUE;
    private static final int GREATEST = Integer.MAX_VALUE;

    private DrawEdgesTest() {
    }

    public static void main(String[] args) throws IllegalAccessException {
        Cases.run(DrawEdgesTest.class, 10);
    }

    private static Run draws(Run run, int want, int n, int strength, boolean resistance) {
        return run.answers(want, name(0, n, strength, resistance), well -> well.draw(0, n, strength, resistance));
    }

    private static void drawIsRefused(Run run, int want, int n, int strength, boolean resistance) {
        run.refuses(want, name(0, n, strength, resistance), well -> well.draw(0, n, strength, resistance));
    }

    private static String name(int g, int n, int strength, boolean resistance) {
        return "draw(" + g + ", " + n + ", " + strength + ", " + resistance + ")";
    }

    /** Generator 0 whose COUNT is above its INTERVAL. */
    private static Run due(int kind, boolean resists, int waiting) {
        return Kinds.inUse(kind, resists, 1, waiting);
    }

    // 10: "n bytes are DRAWN (in place of others), with the TAPE (empty then) as A, of a strength (0 or less is any):
    // 0, or the REFUSAL (1 to 6)." "1 no such generator (closed ones, too)."

    private static void drawOfNoGenerator(Run run, int g) {
        run.refuses(1, name(g, 5, 0, false), well -> well.draw(g, 5, 0, false));
    }

    static void promise10_numberBelow0() {
        drawOfNoGenerator(Kinds.inUse(0, true, 9, 50).tape(3), -1);
        drawOfNoGenerator(Kinds.inUse(0, true, 9, 50).tape(3), LEAST);
    }

    static void promise10_numberAbove3() {
        drawOfNoGenerator(Kinds.inUse(0, true, 9, 50).tape(3), 4);
        drawOfNoGenerator(Kinds.inUse(0, true, 9, 50).tape(3), GREATEST);
    }

    static void promise10_neverOpened() {
        for (int g = 1; g < 4; g++) {
            drawOfNoGenerator(Kinds.inUse(0, true, 9, 50).tape(3), g);
        }
    }

    static void promise10_closed() {
        drawOfNoGenerator(Kinds.inUse(0, true, 9, 50).then(well -> well.close(0)).tape(3), 0);
    }

    static void promise10_theLastNumber() {
        Run run = new Run().waiting(21 * 4);
        for (int g = 0; g < 4; g++) {
            run = run.then(well -> well.open(0, 112, false, 1));
        }
        run.answers(0, "draw(3)", well -> well.draw(3, 5, 0, false)).generator(3, 6, 5).generator(2, 6, 0);
    }

    // "2 n is not 0 to 4096."

    static void promise10_lengthBelow0() {
        for (int kind = 0; kind < 8; kind++) {
            drawIsRefused(Kinds.inUse(kind, true, 9, 50).tape(3), 2, -1, 0, false);
        }
        drawIsRefused(Kinds.inUse(0, true, 9, 50).tape(3), 2, LEAST, 0, false);
    }

    static void promise10_noBytes() {
        for (int kind = 0; kind < 8; kind++) {
            Run run = Kinds.inUse(kind, true, 9, 50).tape(3).size(40);
            Run behind = draws(run, 0, 0, 0, false).size(0).tapeIs(new byte[0]);
            behind.generator(0, 2, 3).generator(0, 6, 40);
            Check.isTrue("a drawing of nothing is one", !Arrays.equals(run.state(0, 0), behind.state(0, 0)));
        }
    }

    static void promise10_oneByte() {
        for (int kind = 0; kind < 8; kind++) {
            Run run = Kinds.inUse(kind, true, 9, 50).tape(3);
            draws(run, 0, 1, 0, false).size(1).generator(0, 6, 41)
                    .drawnIs("the first byte", Arrays.copyOf(draws(run, 0, 100, 0, false).drawn(), 1));
        }
    }

    static void promise10_lengthsAroundABlock() {
        for (int kind = 0; kind < 8; kind++) {
            Run run = Kinds.inUse(kind, true, 9, 50).tape(3);
            byte[] all = draws(run, 0, 3 * Kinds.BLOCK[kind], 0, false).drawn();
            for (int blocks = 1; blocks <= 2; blocks++) {
                for (int n = blocks * Kinds.BLOCK[kind] - 1; n <= blocks * Kinds.BLOCK[kind] + 1; n++) {
                    draws(run, 0, n, 0, false).size(n).drawnIs("the first " + n, Arrays.copyOf(all, n));
                }
            }
        }
    }

    static void promise10_4096Bytes() {
        for (int kind = 0; kind < 8; kind++) {
            Run run = Kinds.opened(kind, true, 9, 0);
            byte[] want = out(kind, run, 4096);
            draws(run, 0, 4096, 0, false).size(4096).generator(0, 6, 4096).drawnIs("4096 bytes", want);
            draws(run, 0, 4095, 0, false).size(4095).drawnIs("4095 bytes", Arrays.copyOf(want, 4095));
        }
    }

    /** What comes out of a drawing without A. */
    private static byte[] out(int kind, Run run, int n) {
        byte[] v = run.state(0, 0);
        if (kind >= 4) {
            return Kinds.stream(run.state(0, 1), v, n);
        }
        byte[] k = run.state(0, 1);
        byte[] all = {};
        for (int i = 0; all.length < n; i++) {
            if (kind < 2) {
                all = Oracle.join(all, Oracle.hash(Kinds.great(kind), Oracle.plus(v, BigInteger.valueOf(i))));
            } else {
                v = Oracle.keyed(Kinds.great(kind), k, v);
                all = Oracle.join(all, v);
            }
        }
        return Arrays.copyOf(all, n);
    }

    static void promise10_lengthAbove4096() {
        for (int kind = 0; kind < 8; kind++) {
            drawIsRefused(Kinds.inUse(kind, true, 9, 50).tape(3), 2, 4097, 0, false);
        }
        drawIsRefused(Kinds.inUse(0, true, 9, 50).tape(3), 2, GREATEST, 0, false);
    }

    static void promise10_inPlaceOfMoreBytes() {
        Run run = draws(Kinds.inUse(0, true, 9, 50), 0, 100, 0, false).size(100);
        draws(run, 0, 7, 0, false).size(7).answers(-1, "drawn(7)", well -> well.drawn(7));
    }

    // "3 a strength above the generator's own"; "(0 or less is any)".

    static void promise10_strengthOfItsOwn() {
        for (int kind = 0; kind < 8; kind++) {
            draws(Kinds.inUse(kind, true, 9, 50), 0, 5, 128, false).size(5);
            draws(Kinds.inUse(kind, true, 9, 50), 0, 5, 127, false).size(5);
            draws(Kinds.inUse(kind, true, 9, 50), 0, 5, 1, false).size(5);
        }
    }

    static void promise10_strengthAboveItsOwn() {
        for (int kind = 0; kind < 8; kind++) {
            drawIsRefused(Kinds.inUse(kind, true, 9, 50).tape(3), 3, 5, 129, false);
            drawIsRefused(Kinds.inUse(kind, true, 9, 50).tape(3), 3, 5, 256, false);
            drawIsRefused(Kinds.inUse(kind, true, 9, 50).tape(3), 3, 5, GREATEST, false);
        }
    }

    static void promise10_strength0OrLess() {
        for (int strength : new int[] {0, -1, LEAST}) {
            draws(Kinds.inUse(0, true, 9, 50), 0, 5, strength, false).size(5);
        }
    }

    static void promise10_itsOwnIsWhatItWasRaisedTo() {
        int[][] raised = {{1, 112}, {113, 128}, {129, 192}, {193, 256}};
        for (int[] one : raised) {
            Run run = new Run().waiting(48).then(well -> well.open(1, one[0], false, 9));
            draws(run, 0, 5, one[1], false).size(5);
            drawIsRefused(run, 3, 5, one[1] + 1, false);
        }
    }

    // "4 A is too long (more than SEED, kinds 6, 7)."

    static void promise10_aTapeOfSeed() {
        for (int kind = 0; kind < 8; kind++) {
            draws(Kinds.inUse(kind, true, 9, 50).tape(Kinds.SEED[kind]), 0, 5, 0, false).tapeIs(new byte[0]).size(5);
            draws(Kinds.inUse(kind, true, 9, 50).tape(Kinds.SEED[kind]), 0, 5, 0, true).tapeIs(new byte[0]).size(5);
            draws(due(kind, true, 50).tape(Kinds.SEED[kind]), 0, 5, 0, false).tapeIs(new byte[0]).size(5);
        }
    }

    private static void drawWithALongTape(int kind, int n) {
        Run[] runs = {Kinds.inUse(kind, true, 9, 50).tape(n), due(kind, true, 50).tape(n)};
        for (Run run : runs) {
            for (boolean resistance : new boolean[] {false, true}) {
                if (Kinds.bound(kind)) {
                    drawIsRefused(run, 4, 5, 0, resistance);
                } else {
                    draws(run, 0, 5, 0, resistance).tapeIs(new byte[0]).size(5);
                }
            }
        }
    }

    static void promise10_aTapeOneLongerThanSeed() {
        for (int kind = 0; kind < 8; kind++) {
            drawWithALongTape(kind, Kinds.SEED[kind] + 1);
        }
    }

    static void promise10_aFullTape() {
        for (int kind = 0; kind < 8; kind++) {
            drawWithALongTape(kind, 240);
        }
    }

    // "5 resistance is asked for, and it doesn't RESIST."

    static void promise10_resistanceOfOneThatResists() {
        for (int kind = 0; kind < 8; kind++) {
            Run run = Kinds.inUse(kind, true, 9, 50).tape(3);
            draws(run, 0, 5, 0, true).generator(0, 2, 2).generator(0, 7, 2);
            draws(run, 0, 5, 0, false).generator(0, 2, 3).generator(0, 7, 1);
        }
    }

    static void promise10_resistanceOfOneThatDoesNot() {
        for (int kind = 0; kind < 8; kind++) {
            drawIsRefused(Kinds.inUse(kind, false, 9, 50).tape(3), 5, 5, 0, true);
            drawIsRefused(due(kind, false, 50).tape(3), 5, 5, 0, true);
            draws(Kinds.inUse(kind, false, 9, 50).tape(3), 0, 5, 0, false).size(5);
        }
    }

    // "6 the SUPPLY has not so many bytes."

    static void promise10_justAsManyBytesWait() {
        for (int kind = 0; kind < 8; kind++) {
            int fresh = Kinds.fresh(kind, 128);
            draws(due(kind, false, fresh).tape(3), 0, 5, 0, false).source(0).generator(0, 7, 2);
            draws(Kinds.inUse(kind, true, 9, fresh).tape(3), 0, 5, 0, true).source(0).generator(0, 7, 2);
        }
    }

    static void promise10_oneByteTooFewWaits() {
        for (int kind = 0; kind < 8; kind++) {
            int few = Kinds.fresh(kind, 128) - 1;
            drawIsRefused(due(kind, false, few).tape(3), 6, 5, 0, false);
            drawIsRefused(Kinds.inUse(kind, true, 9, few).tape(3), 6, 5, 0, true);
            drawIsRefused(due(kind, true, few).tape(3), 6, 0, 0, true);
        }
    }

    static void promise10_noBytesAreNeededWithoutASeeding() {
        for (int kind = 0; kind < 8; kind++) {
            draws(Kinds.inUse(kind, true, 9, 0).tape(3), 0, 5, 0, false).size(5).generator(0, 7, 1);
            Run unsound = Kinds.inUse(kind, true, 9, 0).supply("0707070707").tape(3);
            draws(unsound, 0, 5, 0, false).size(5).generator(0, 7, 1);
        }
    }

    static void promise10_unsoundNoneWait() {
        for (int kind = 0; kind < 8; kind++) {
            drawIsRefused(due(kind, true, 50).supply("0707070707").tape(3), 6, 5, 0, false);
            drawIsRefused(Kinds.inUse(kind, true, 9, 50).supply("0707070707").tape(3), 6, 5, 0, true);
        }
    }

    /** "REFUSALS, the first that holds": every choice of reasons to refuse. */
    static void promise10_theFirstRefusalThatHolds() {
        for (int reasons = 0; reasons < 64; reasons++) {
            Run run = due(6, false, (reasons & 32) != 0 ? 31 : 32).tape((reasons & 8) != 0 ? 33 : 32);
            int g = reasons & 1;
            int n = (reasons & 2) != 0 ? 4097 : 4096;
            int strength = (reasons & 4) != 0 ? 129 : 128;
            boolean resistance = (reasons & 16) != 0;
            if (reasons == 0) {
                draws(run, 0, n, strength, resistance);
            } else {
                int want = Integer.numberOfTrailingZeros(reasons) + 1;
                run.refuses(want, name(g, n, strength, resistance), well -> well.draw(g, n, strength, resistance));
            }
        }
    }

    // "If COUNT is above INTERVAL, or resistance is asked for, a SEEDING anew with A comes ahead,
    // and the DRAWING is without A then."

    static void promise10_countIsTheInterval() {
        for (int kind = 0; kind < 8; kind++) {
            draws(Kinds.inUse(kind, false, 2, 50).tape(3).generator(0, 2, 2), 0, 5, 0, false)
                    .generator(0, 2, 3).generator(0, 7, 1).source(50);
        }
    }

    static void promise10_countIsOneAboveTheInterval() {
        for (int kind = 0; kind < 8; kind++) {
            Run run = Kinds.inUse(kind, false, 2, 50).then(well -> well.draw(0, 5, 0, false));
            run = draws(run.tape(3).generator(0, 2, 3), 0, 5, 0, false);
            run.generator(0, 2, 2).generator(0, 7, 2).source(50 - Kinds.fresh(kind, 128));
        }
    }

    static void promise10_anIntervalOf1() {
        for (int kind = 0; kind < 8; kind++) {
            Run run = draws(Kinds.opened(kind, false, 1, 200), 0, 5, 0, false).generator(0, 2, 2).generator(0, 7, 1);
            for (int seedings = 2; seedings <= 4; seedings++) {
                run = draws(run, 0, 5, 0, false).generator(0, 2, 2).generator(0, 7, seedings);
            }
        }
    }

    static void promise10_anIntervalOf100000() {
        Run run = Kinds.opened(6, false, 100000, 200);
        for (int k = 0; k < 400; k++) {
            run = run.then(well -> well.draw(0, 1, 0, false));
        }
        run.generator(0, 2, 401).generator(0, 7, 1).source(200);
    }

    static void promise10_aSeedingAheadTakesAWhole() {
        for (int kind = 0; kind < 8; kind++) {
            for (int given : new int[] {0, 1, 32}) {
                Run apart = due(kind, true, 50).tape(given).then(well -> well.reseed(0, false));
                apart = apart.then(well -> well.draw(0, 37, 0, false));
                draws(due(kind, true, 50).tape(given), 0, 37, 0, false).sameAs(apart, "a seeding that is due");
                draws(due(kind, true, 50).tape(given), 0, 37, 0, true).sameAs(apart, "both reasons at once");
                apart = Kinds.inUse(kind, true, 9, 50).tape(given).then(well -> well.reseed(0, true));
                apart = apart.then(well -> well.draw(0, 37, 0, false));
                draws(Kinds.inUse(kind, true, 9, 50).tape(given), 0, 37, 0, true).sameAs(apart, "resistance");
            }
        }
    }

    static void promise10_aSeedingAheadOfADrawingOfNothing() {
        for (int kind = 0; kind < 8; kind++) {
            int left = 50 - Kinds.fresh(kind, 128);
            draws(due(kind, false, 50).tape(3), 0, 0, 0, false)
                    .source(left).size(0).generator(0, 2, 2).generator(0, 7, 2).tapeIs(new byte[0]);
            draws(Kinds.inUse(kind, true, 9, 50).tape(3), 0, 0, 0, true)
                    .source(left).size(0).generator(0, 2, 2).generator(0, 7, 2).tapeIs(new byte[0]);
        }
    }

    // "Behind a DRAWING COUNT is one more."

    static void promise10_countAndBytesInAll() {
        for (int kind = 0; kind < 8; kind++) {
            Run run = Kinds.opened(kind, false, 9, 0).generator(0, 2, 1).generator(0, 6, 0);
            run = draws(run, 0, 4096, 0, false).generator(0, 2, 2).generator(0, 6, 4096);
            run = draws(run, 0, 0, 0, false).generator(0, 2, 3).generator(0, 6, 4096);
            draws(run, 0, 1, 0, false).generator(0, 2, 4).generator(0, 6, 4097);
        }
    }

    // DIGEST: "if A has bytes: V is V + D(0x02 V A)." "Then V is V + D(0x03 V) + C + COUNT. (Sums of SEED bytes; what
    // goes beyond is cut.)"

    private static BigInteger number(byte[] bytes) {
        return new BigInteger(1, bytes);
    }

    private static BigInteger summands(int kind, Run run, byte[] v) {
        byte[] digest = Oracle.hash(Kinds.great(kind), Oracle.join(new byte[] {3}, v));
        return number(digest).add(number(run.state(0, 1))).add(BigInteger.valueOf(run.made().generator(0, 2)));
    }

    /** A generator that was not drawn from yet; its state differs with the first of its fresh bytes. */
    private static Run seeded(int kind, int first) {
        return new Run().supply(Check.bytes(24, first)).then(well -> well.open(kind, 128, false, 100000));
    }

    /** Runs through generators until the sum behind a drawing goes beyond SEED bytes, or does not. */
    private static void sumOfADigest(boolean beyond) {
        for (int kind = 0; kind < 2; kind++) {
            int found = 0;
            for (int first = 0; first < 40 && found < 3; first++) {
                Run run = seeded(kind, first);
                byte[] v = run.state(0, 0);
                BigInteger added = summands(kind, run, v);
                if (number(v).add(added).bitLength() > 8 * Kinds.SEED[kind] == beyond) {
                    found++;
                    draws(run, 0, 5, 0, false).stateIs("V", 0, 0, Oracle.plus(v, added));
                }
            }
            Check.same("sums that were found", 3, found);
        }
    }

    static void promise10_aDigestsSumThatFits() {
        sumOfADigest(false);
    }

    static void promise10_aDigestsSumThatIsCut() {
        sumOfADigest(true);
    }

    /** D is shorter than V: the sum of their last bytes may go over into those ahead, or not. */
    private static void sumOfADigestWithA(boolean over) {
        for (int kind = 0; kind < 2; kind++) {
            int found = 0;
            int d = Kinds.BLOCK[kind];
            for (int first = 0; first < 60 && found < 3; first++) {
                Run run = seeded(kind, first).tape("c3");
                byte[] v = run.state(0, 0);
                byte[] m = Oracle.join(new byte[] {2}, v, Oracle.number(0xC3, 1));
                byte[] digest = Oracle.hash(Kinds.great(kind), m);
                byte[] last = Arrays.copyOfRange(v, v.length - d, v.length);
                if (number(last).add(number(digest)).bitLength() > 8 * d == over) {
                    found++;
                    byte[] mixed = Oracle.plus(v, number(digest));
                    draws(run, 0, d, 0, false).drawnIs("D(V)", Oracle.hash(Kinds.great(kind), mixed))
                            .stateIs("V", 0, 0, Oracle.plus(mixed, summands(kind, run, mixed)));
                }
            }
            Check.same("sums that were found", 3, found);
        }
    }

    static void promise10_aDigestsSumWithAThatGoesOver() {
        sumOfADigestWithA(true);
    }

    static void promise10_aDigestsSumWithAThatDoesNot() {
        sumOfADigestWithA(false);
    }

    // "Out come D(V), D(V + 1), D(V + 2) .., of that n bytes."

    static void promise10_aDigestsCounterGoesOverItsLastByte() {
        // Found by trying: with these fresh bytes, and so many given, the last byte of V is FF.
        int[] first = {88, 75};
        int[] given = {0, 3};
        for (int kind = 0; kind < 2; kind++) {
            int of = kind;
            Run run = new Run().supply(Check.bytes(24, first[kind])).tape(given[kind])
                    .then(well -> well.open(of, 128, false, 9));
            byte[] v = run.state(0, 0);
            Check.same("the last byte of V", -1, v[v.length - 1]);
            int n = 3 * Kinds.BLOCK[kind];
            draws(run, 0, n, 0, false).drawnIs("three digests", out(kind, run, n));
        }
    }

    static void promise10_aCountOfMoreThanOneByte() {
        for (int kind = 0; kind < 2; kind++) {
            Run run = seeded(kind, 5);
            for (int k = 0; k < 254; k++) {
                run = run.then(well -> well.draw(0, 1, 0, false));
            }
            for (int count = 255; count <= 257; count++) {
                byte[] v = run.generator(0, 2, count).state(0, 0);
                BigInteger added = summands(kind, run, v);
                run = draws(run, 0, 1, 0, false).stateIs("V", 0, 0, Oracle.plus(v, added));
            }
        }
    }

    /** How many digests come out makes no difference to what V is then. */
    static void promise10_aDigestsStateBehindDrawingsAroundABlock() {
        for (int kind = 0; kind < 2; kind++) {
            int d = Kinds.BLOCK[kind];
            Run run = seeded(kind, 5);
            byte[] v = run.state(0, 0);
            byte[] want = Oracle.plus(v, summands(kind, run, v));
            for (int n : new int[] {0, 1, d - 1, d, d + 1, 2 * d, 4096}) {
                draws(run, 0, n, 0, false).stateIs("V", 0, 0, want).stateIs("C", 0, 1, run.state(0, 1));
            }
        }
    }

    // MAC: "if A has bytes MIX(A); V is MAC(K, V), again and again, comes out, n bytes; then MIX(A)."

    static void promise10_aMacsDrawingOfNothingWithoutA() {
        for (int kind = 2; kind < 4; kind++) {
            Run run = Kinds.opened(kind, false, 9, 0);
            byte[][] mixed = Kinds.mixedMac(kind, run, new byte[0]);
            draws(run, 0, 0, 0, false).stateIs("V", 0, 0, mixed[0]).stateIs("K", 0, 1, mixed[1]);
        }
    }

    static void promise10_aMacsDrawingOfNothingWithA() {
        for (int kind = 2; kind < 4; kind++) {
            for (int given : new int[] {1, 240}) {
                Run run = Kinds.opened(kind, false, 9, 0).tape(given);
                byte[] v = run.state(0, 0);
                byte[] k = run.state(0, 1);
                for (int mark = 0; mark < 4; mark++) {
                    k = Oracle.keyed(Kinds.great(kind), k, Oracle.join(v, Oracle.number(mark % 2, 1),
                            Check.bytes(given, 40)));
                    v = Oracle.keyed(Kinds.great(kind), k, v);
                }
                draws(run, 0, 0, 0, false).stateIs("V", 0, 0, v).stateIs("K", 0, 1, k);
            }
        }
    }

    /** The last value of V that comes out, even if only in part, is the one that is mixed: none is made behind it. */
    static void promise10_aMacsStateBehindDrawingsAroundABlock() {
        for (int kind = 2; kind < 4; kind++) {
            int d = Kinds.BLOCK[kind];
            for (int n : new int[] {1, d - 1, d, d + 1, 2 * d, 4096}) {
                Run run = Kinds.opened(kind, false, 9, 0);
                byte[] k = run.state(0, 1);
                byte[] v = run.state(0, 0);
                for (int made = 0; made < n; made += d) {
                    v = Oracle.keyed(Kinds.great(kind), k, v);
                }
                k = Oracle.keyed(Kinds.great(kind), k, Oracle.join(v, new byte[1]));
                v = Oracle.keyed(Kinds.great(kind), k, v);
                draws(run, 0, n, 0, false).stateIs("V", 0, 0, v).stateIs("K", 0, 1, k);
            }
        }
    }

    // COUNTER: "if A has bytes, m is DERIVE(A, SEED), of 6, 7 PADDED(A, SEED), and MIX(m); else m is SEED 0s."

    static void promise10_aCountersDrawingOfNothing() {
        for (int kind = 4; kind < 8; kind++) {
            int seed = Kinds.SEED[kind];
            for (int given : new int[] {0, 1, seed - 1, seed, 240}) {
                if (Kinds.bound(kind) && given > seed) {
                    continue;
                }
                Run run = Kinds.opened(kind, false, 9, 0).tape(given);
                byte[] a = Check.bytes(given, 40);
                byte[] m = given == 0 ? new byte[seed] : Kinds.bound(kind) ? Arrays.copyOf(a, seed)
                        : Oracle.deriveByCipher(Kinds.great(kind), a, seed);
                byte[] k = run.state(0, 1);
                byte[] v = run.state(0, 0);
                for (int mixes = given == 0 ? 1 : 2; mixes > 0; mixes--) {
                    byte[] mixed = Oracle.xor(Kinds.stream(k, v, seed), m);
                    k = Arrays.copyOf(mixed, seed - 16);
                    v = Arrays.copyOfRange(mixed, seed - 16, seed);
                }
                draws(run, 0, 0, 0, false).stateIs("K", 0, 1, k).stateIs("V", 0, 0, v);
            }
        }
    }

    static void promise10_aCountersStateBehindDrawingsAroundABlock() {
        for (int kind = 4; kind < 8; kind++) {
            int seed = Kinds.SEED[kind];
            for (int n : new int[] {1, 15, 16, 17, 32, 4096}) {
                Run run = Kinds.opened(kind, false, 9, 0);
                int out = (n + 15) / 16 * 16;
                byte[] stream = Kinds.stream(run.state(0, 1), run.state(0, 0), out + seed);
                draws(run, 0, n, 0, false)
                        .stateIs("K", 0, 1, Arrays.copyOfRange(stream, out, out + seed - 16))
                        .stateIs("V", 0, 0, Arrays.copyOfRange(stream, out + seed - 16, out + seed));
            }
        }
    }

    static void promise10_aByteOf0IsNotNothing() {
        for (int kind = 0; kind < 8; kind++) {
            byte[] bare = draws(Kinds.opened(kind, false, 9, 0), 0, 16, 0, false).drawn();
            byte[] with = draws(Kinds.opened(kind, false, 9, 0).tape("00"), 0, 16, 0, false).drawn();
            Check.isTrue("A of one byte 0 is mixed in", !Arrays.equals(bare, with));
        }
    }

    // "V is V + 1 (of 16 bytes, cut)".

    static void promise10_aCounterThatIsCut() {
        for (int kind = 6; kind < 8; kind++) {
            int seed = Kinds.SEED[kind];
            byte[] key = Check.bytes(seed - 16, 1);
            Run run = Kinds.chosen(kind, key, Kinds.row(0xFF, 16));
            byte[] out = {};
            for (int k = 0; k < 8; k++) {
                out = Oracle.join(out, Oracle.encrypt(key, Oracle.number(k, 16)));
            }
            draws(run, 0, 40, 0, false).drawnIs("E(K, 0) ..", Arrays.copyOf(out, 40))
                    .stateIs("K", 0, 1, Arrays.copyOfRange(out, 48, 48 + seed - 16))
                    .stateIs("V", 0, 0, Arrays.copyOfRange(out, 48 + seed - 16, 48 + seed));
        }
    }

    static void promise10_aCounterThatIsCutInAMix() {
        for (int kind = 6; kind < 8; kind++) {
            int seed = Kinds.SEED[kind];
            byte[] key = Check.bytes(seed - 16, 1);
            byte[] v = Kinds.row(0xFF, 16);
            v[15] = (byte) 0xFE;
            byte[] mixed = Oracle.join(Oracle.encrypt(key, Kinds.row(0xFF, 16)),
                    Oracle.encrypt(key, Oracle.number(0, 16)), Oracle.encrypt(key, Oracle.number(1, 16)));
            draws(Kinds.chosen(kind, key, v), 0, 0, 0, false)
                    .stateIs("K", 0, 1, Arrays.copyOf(mixed, seed - 16))
                    .stateIs("V", 0, 0, Arrays.copyOfRange(mixed, seed - 16, seed));
        }
    }

    static void promise10_aCounterGoesOverItsLastBytes() {
        for (int kind = 6; kind < 8; kind++) {
            byte[] key = Check.bytes(Kinds.SEED[kind] - 16, 1);
            for (int ends = 1; ends < 16; ends++) {
                byte[] v = Oracle.join(Kinds.row(0x5A, 16 - ends), Kinds.row(0xFF, ends));
                draws(Kinds.chosen(kind, key, v), 0, 32, 0, false).drawnIs("E(K, V + 1) ..", Kinds.stream(key, v, 32));
            }
        }
    }

    // "An object is used for at most 512 calls".

    static void promise10_the512thCall() {
        BitWell well = Kinds.opened(2, false, 100000, 0).made();
        Oracle oracle = new Oracle();
        byte[] bytes = Check.bytes(24, 11);
        oracle.feed(word(bytes, 0), word(bytes, 4), word(bytes, 8), word(bytes, 12), word(bytes, 16));
        oracle.feed(word(bytes, 20), 0, 0, 0, 0);
        oracle.end(24);
        oracle.supply();
        oracle.open(2, 128, false, 100000);
        // Six calls have opened it: end, two feeds, end, supply, open.
        for (int calls = 6; calls < 511; calls++) {
            oracle.draw(0, 1, 0, false);
            well.draw(0, 1, 0, false);
        }
        Check.same("the 512th call", oracle.state(0, 0, 31), well.state(0, 0, 31));
    }

    private static int word(byte[] bytes, int from) {
        return new BigInteger(Arrays.copyOfRange(bytes, from, from + 4)).intValue();
    }
}
