import java.util.Arrays;

/** Promises 7 and 8: a test for each boundary that a sentence on opening and closing names. */
public final class OpenEdgesTest {
    private static final int NONE = BitWell.NONE;
    private static final int LEAST = Integer.MIN_VALUE;
    private static final int GREATEST = Integer.MAX_VALUE;

    private OpenEdgesTest() {
    }

    public static void main(String[] args) throws IllegalAccessException {
        Cases.run(OpenEdgesTest.class, 7, 8);
    }

    private static Run opens(Run run, int want, int kind, int strength, int interval) {
        return run.answers(want, name(kind, strength, interval), well -> well.open(kind, strength, false, interval));
    }

    private static void openIsRefused(Run run, int want, int kind, int strength, int interval) {
        run.refuses(want, name(kind, strength, interval), well -> well.open(kind, strength, false, interval));
    }

    private static String name(int kind, int strength, int interval) {
        return "open(" + kind + ", " + strength + ", false, " + interval + ")";
    }

    /** Bytes on the tape, bytes that wait, bytes that are drawn, and a generator. */
    private static Run inUse() {
        return new Run().waiting(200).then(well -> well.open(2, 128, true, 9)).tape(5)
                .then(well -> well.draw(0, 40, 0, false)).tape(6);
    }

    private static Run fourOpen() {
        Run run = new Run().waiting(240);
        for (int g = 0; g < 4; g++) {
            int kind = 2 * g;
            run = run.answers(g, "open", well -> well.open(kind, 112, false, 9));
        }
        return run;
    }

    // 7: "-7: no such kind, another interval", "KINDS: 0, 1 .. 6, 7", "INTERVAL (1 to 100000)".

    static void promise7_kindBelow0() {
        openIsRefused(inUse(), -7, -1, 112, 1);
        openIsRefused(inUse(), -7, LEAST, 112, 1);
    }

    static void promise7_kind0() {
        opens(inUse(), 1, 0, 112, 1).generator(1, 0, 0);
    }

    static void promise7_kind7() {
        opens(inUse(), 1, 7, 112, 1).generator(1, 0, 7);
    }

    static void promise7_kindAbove7() {
        openIsRefused(inUse(), -7, 8, 112, 1);
        openIsRefused(inUse(), -7, GREATEST, 112, 1);
    }

    static void promise7_interval0() {
        openIsRefused(inUse(), -7, 0, 112, 0);
    }

    static void promise7_intervalBelow0() {
        openIsRefused(inUse(), -7, 0, 112, -1);
        openIsRefused(inUse(), -7, 0, 112, LEAST);
    }

    static void promise7_interval1() {
        opens(inUse(), 1, 0, 112, 1).generator(1, 3, 1);
    }

    static void promise7_interval100000() {
        opens(inUse(), 1, 0, 112, 100000).generator(1, 3, 100000);
    }

    static void promise7_intervalAbove100000() {
        openIsRefused(inUse(), -7, 0, 112, 100001);
        openIsRefused(inUse(), -7, 0, 112, GREATEST);
    }

    // "3 a strength .. (open) above MOST, or below 1"; "STRENGTH is 112, 128, 192 or 256 bits, at most MOST: 256,
    // of kinds 4, 6 128"; "the least one not below strength".

    static void promise7_strengthBelow1() {
        for (int kind = 0; kind < 8; kind++) {
            openIsRefused(inUse(), -3, kind, 0, 1);
            openIsRefused(inUse(), -3, kind, -1, 1);
            openIsRefused(inUse(), -3, kind, LEAST, 1);
        }
    }

    static void promise7_strength1() {
        for (int kind = 0; kind < 8; kind++) {
            opens(inUse(), 1, kind, 1, 1).generator(1, 1, 112);
        }
    }

    static void promise7_strengthsAtAndAboveEachStep() {
        int[][] steps = {{111, 112}, {112, 112}, {113, 128}, {127, 128}, {128, 128}, {129, 192}, {191, 192},
            {192, 192}, {193, 256}, {255, 256}, {256, 256}};
        for (int kind = 0; kind < 8; kind++) {
            for (int[] step : steps) {
                if (step[0] <= Kinds.most(kind)) {
                    opens(inUse(), 1, kind, step[0], 1).generator(1, 1, step[1]);
                }
            }
        }
    }

    static void promise7_strengthOfMost() {
        for (int kind = 0; kind < 8; kind++) {
            opens(inUse(), 1, kind, Kinds.most(kind), 1).generator(1, 1, Kinds.most(kind));
        }
    }

    static void promise7_strengthAboveMost() {
        for (int kind = 0; kind < 8; kind++) {
            openIsRefused(inUse(), -3, kind, Kinds.most(kind) + 1, 1);
            openIsRefused(inUse(), -3, kind, 257, 1);
            openIsRefused(inUse(), -3, kind, GREATEST, 1);
        }
    }

    // "4 A is too long (more than SEED, kinds 6, 7)"; "the TAPE (empty then) as A of its first SEEDING".

    static void promise7_anEmptyTape() {
        for (int kind = 0; kind < 8; kind++) {
            opens(inUse().tape(0), 1, kind, 128, 1).tapeIs(new byte[0]);
        }
    }

    static void promise7_aTapeOfSeed() {
        for (int kind = 0; kind < 8; kind++) {
            opens(inUse().tape(Kinds.SEED[kind]), 1, kind, 128, 1).tapeIs(new byte[0]);
        }
    }

    static void promise7_aTapeOneLongerThanSeed() {
        for (int kind = 0; kind < 8; kind++) {
            Run run = inUse().tape(Kinds.SEED[kind] + 1);
            if (Kinds.bound(kind)) {
                openIsRefused(run, -4, kind, 128, 1);
            } else {
                opens(run, 1, kind, 128, 1).tapeIs(new byte[0]);
            }
        }
    }

    static void promise7_aFullTape() {
        for (int kind = 0; kind < 8; kind++) {
            Run run = inUse().tape(240);
            if (Kinds.bound(kind)) {
                openIsRefused(run, -4, kind, 128, 1);
            } else {
                opens(run, 1, kind, 128, 1).tapeIs(new byte[0]);
            }
        }
    }

    // "6 the SUPPLY has not so many bytes"; "TAKES F bytes: STRENGTH / 8; SEED, of kinds 6, 7. (The first one of a
    // generator besides, of kinds 0 to 5, in one with F: F / 2 more, behind them.)"

    static void promise7_justAsManyBytesWait() {
        for (int kind = 0; kind < 8; kind++) {
            for (int strength : Kinds.STRENGTHS) {
                if (strength <= Kinds.most(kind)) {
                    int first = Kinds.first(kind, strength);
                    Run run = opens(new Run().waiting(first).tape(3), 0, kind, strength, 1);
                    run.source(0, 0, 1, 11, 1, first, first, 0);
                }
            }
        }
    }

    static void promise7_oneByteTooFewWaits() {
        for (int kind = 0; kind < 8; kind++) {
            for (int strength : Kinds.STRENGTHS) {
                if (strength <= Kinds.most(kind)) {
                    openIsRefused(new Run().waiting(Kinds.first(kind, strength) - 1).tape(3), -6, kind, strength, 1);
                }
            }
        }
    }

    static void promise7_moreBytesWaitThanItTakes() {
        for (int kind = 0; kind < 8; kind++) {
            int first = Kinds.first(kind, 128);
            opens(new Run().waiting(first + 1), 0, kind, 128, 1).source(1, 0, 1, 11, 1, first + 1, first, 0);
        }
    }

    static void promise7_nothingWaits() {
        for (int kind = 0; kind < 8; kind++) {
            openIsRefused(new Run().tape(3), -6, kind, 112, 1);
        }
    }

    static void promise7_unsoundNoneWait() {
        for (int kind = 0; kind < 8; kind++) {
            openIsRefused(new Run().waiting(200).supply("0707070707").tape(3), -6, kind, 112, 1);
        }
    }

    // "-8: four are open"; "as the least number that is free".

    static void promise7_theFourthIsTheLast() {
        openIsRefused(fourOpen().tape(3), -8, 0, 112, 1);
    }

    static void promise7_theLeastNumberThatIsFree() {
        for (int g = 0; g < 4; g++) {
            int closed = g;
            Run run = opens(fourOpen().then(well -> well.close(closed)), g, 1, 112, 1);
            openIsRefused(run.generator(g, 0, 1), -8, 0, 112, 1);
        }
    }

    static void promise7_theLeastOfTwoThatAreFree() {
        for (int g = 0; g < 3; g++) {
            int closed = g;
            Run run = fourOpen().then(well -> well.close(3)).then(well -> well.close(closed));
            opens(opens(run, g, 1, 112, 1), 3, 3, 112, 1).generator(g, 0, 1).generator(3, 0, 3);
        }
    }

    static void promise7_aRefusedOneTakesNoNumber() {
        Run run = new Run().waiting(60).then(well -> well.open(0, 0, false, 1));
        run = run.then(well -> well.open(8, 112, false, 1));
        opens(run, 0, 0, 112, 1);
    }

    // "Minus the REFUSAL else (3, 4, 6), and ahead of these -7: no such kind, another interval; -8: four are open."

    static void promise7_noSuchKindAheadOfFourOpen() {
        openIsRefused(fourOpen().tape(3), -7, 8, 112, 1);
        openIsRefused(fourOpen().tape(3), -7, -1, 112, 1);
    }

    static void promise7_anotherIntervalAheadOfFourOpen() {
        openIsRefused(fourOpen().tape(3), -7, 0, 112, 0);
        openIsRefused(fourOpen().tape(3), -7, 0, 112, 100001);
    }

    static void promise7_fourOpenAheadOfTheRefusals() {
        openIsRefused(fourOpen().tape(3), -8, 0, 257, 1);
        openIsRefused(fourOpen().tape(33), -8, 6, 128, 1);
        openIsRefused(fourOpen().supply("0707070707"), -8, 0, 112, 1);
    }

    /** Every choice of reasons to refuse, in the order in which they are asked. */
    static void promise7_theFirstRefusalThatHolds() {
        int[] answers = {-7, -7, -8, -3, -4, -6};
        for (int reasons = 0; reasons < 64; reasons++) {
            int open = (reasons & 4) != 0 ? 4 : 3;
            Run run = new Run().waiting(21 * open + ((reasons & 32) != 0 ? 31 : 32));
            for (int g = 0; g < open; g++) {
                run = run.then(well -> well.open(0, 112, false, 1));
            }
            int kind = (reasons & 1) != 0 ? 8 : 6;
            int interval = (reasons & 2) != 0 ? 0 : 1;
            int strength = (reasons & 8) != 0 ? 129 : 128;
            run = run.tape((reasons & 16) != 0 ? 33 : 32);
            if (reasons == 0) {
                opens(run, 3, kind, strength, interval);
            } else {
                openIsRefused(run, answers[Integer.numberOfTrailingZeros(reasons)], kind, strength, interval);
            }
        }
    }

    // "COUNT is 1 behind each seeding."

    static void promise7_theCountsOfANewOne() {
        for (int kind = 0; kind < 8; kind++) {
            Run run = opens(inUse(), 1, kind, 128, 77);
            run.generator(1, 2, 1).generator(1, 6, 0).generator(1, 7, 1);
        }
    }

    static void promise7_whatWasDrawnStays() {
        byte[] drawn = inUse().drawn();
        opens(inUse(), 1, 0, 112, 1).drawnIs("what was drawn", drawn);
    }

    static void promise7_resistsOrNot() {
        inUse().answers(1, "open", well -> well.open(0, 112, true, 1)).generator(1, 4, 1);
        inUse().answers(1, "open", well -> well.open(0, 112, false, 1)).generator(1, 4, 0);
    }

    // "First: V is DERIVE(R A, SEED). .. Then C is DERIVE(0x00 V, SEED)."

    static void promise7_firstSeedingOfADigest() {
        for (int kind = 0; kind < 2; kind++) {
            for (int given : new int[] {0, 1, 240}) {
                byte[] m = Oracle.join(Check.bytes(24, 11), Check.bytes(given, 40));
                byte[] v = Oracle.deriveByDigest(Kinds.great(kind), m, Kinds.SEED[kind]);
                byte[] c = Oracle.deriveByDigest(Kinds.great(kind), Oracle.join(new byte[1], v), Kinds.SEED[kind]);
                opens(new Run().waiting(24).tape(given), 0, kind, 128, 1).stateIs("V", 0, 0, v).stateIs("C", 0, 1, c);
            }
        }
    }

    // "First: K is 0s, V all 0x01, MIX(R A)."

    static void promise7_firstSeedingOfAMac() {
        for (int kind = 2; kind < 4; kind++) {
            for (int given : new int[] {0, 1, 240}) {
                byte[] m = Oracle.join(Check.bytes(24, 11), Check.bytes(given, 40));
                byte[] k = new byte[Kinds.SEED[kind]];
                byte[] v = Kinds.row(1, Kinds.SEED[kind]);
                for (int mark = 0; mark < 2; mark++) {
                    k = Oracle.keyed(Kinds.great(kind), k, Oracle.join(v, Oracle.number(mark, 1), m));
                    v = Oracle.keyed(Kinds.great(kind), k, v);
                }
                opens(new Run().waiting(24).tape(given), 0, kind, 128, 1).stateIs("V", 0, 0, v).stateIs("K", 0, 1, k);
            }
        }
    }

    // "SEEDING: m is DERIVE(R A, SEED), of 6, 7 R xor PADDED(A, SEED); at the first one K and V are 0s ahead".

    static void promise7_firstSeedingOfACounter() {
        for (int kind = 4; kind < 8; kind++) {
            int seed = Kinds.SEED[kind];
            for (int given : new int[] {0, 1, seed - 1, seed, 240}) {
                if (Kinds.bound(kind) && given > seed) {
                    continue;
                }
                byte[] r = Check.bytes(Kinds.first(kind, 128), 11);
                byte[] a = Check.bytes(given, 40);
                byte[] m = Kinds.bound(kind) ? Oracle.xor(r, Arrays.copyOf(a, seed))
                        : Oracle.deriveByCipher(Kinds.great(kind), Oracle.join(r, a), seed);
                byte[] mixed = Oracle.xor(Kinds.stream(new byte[seed - 16], new byte[16], seed), m);
                opens(new Run().waiting(r.length).tape(given), 0, kind, 128, 1)
                        .stateIs("K", 0, 1, Arrays.copyOf(mixed, seed - 16))
                        .stateIs("V", 0, 0, Arrays.copyOfRange(mixed, seed - 16, seed));
            }
        }
    }

    /** Whatever the object did ahead of it, a first seeding is made of its own R and A alone. */
    static void promise7_firstSeedingBehindOtherWork() {
        for (int kind = 0; kind < 8; kind++) {
            int of = kind;
            int first = Kinds.first(kind, 128);
            Run bare = new Run().waiting(first).tape(5).then(well -> well.open(of, 128, false, 9));
            for (int before = 0; before < 8; before++) {
                Run busy = Kinds.inUse(before, false, 9, 0).tape(200).then(well -> well.mac(true));
                Run run = opens(busy.waiting(first).tape(5), 1, kind, 128, 9);
                run.stateIs("V", 1, 0, bare.state(0, 0)).stateIs("C or K", 1, 1, bare.state(0, 1));
            }
        }
    }

    // 8: "It is closed: its STATE is 0s: true; false: no such one."

    private static void closeIsRefused(Run run, int g) {
        run.refuses(false, "close(" + g + ")", well -> well.close(g));
    }

    static void promise8_below0() {
        closeIsRefused(fourOpen(), -1);
        closeIsRefused(fourOpen(), LEAST);
    }

    static void promise8_above3() {
        closeIsRefused(fourOpen(), 4);
        closeIsRefused(fourOpen(), GREATEST);
    }

    static void promise8_neverOpened() {
        for (int g = 1; g < 4; g++) {
            closeIsRefused(inUse(), g);
        }
    }

    static void promise8_closedAlready() {
        closeIsRefused(fourOpen().then(well -> well.close(2)), 2);
    }

    static void promise8_theFirstAndTheLast() {
        for (int g : new int[] {0, 3}) {
            Run run = fourOpen().answers(true, "close(" + g + ")", well -> well.close(g));
            for (int other = 0; other < 4; other++) {
                run.generator(other, 0, other == g ? NONE : 2 * other);
                run.stateIs("V", other, 0, other == g ? new byte[0] : fourOpen().state(other, 0));
                run.stateIs("C or K", other, 1, other == g ? new byte[0] : fourOpen().state(other, 1));
            }
        }
    }

    static void promise8_aClosedOneIsNoSuchGenerator() {
        Run run = fourOpen().then(well -> well.close(1)).tape(3);
        run.refuses(1, "reseed(1)", well -> well.reseed(1, false));
        run.refuses(1, "draw(1)", well -> well.draw(1, 5, 0, false));
        run.refuses(NONE, "generator(1, 0)", well -> well.generator(1, 0));
        run.refuses(NONE, "state(1, 0, 0)", well -> well.state(1, 0, 0));
        run.refuses(NONE, "state(1, 1, 0)", well -> well.state(1, 1, 0));
    }

    static void promise8_nothingElseChanges() {
        Run run = inUse().then(well -> well.close(0));
        run.tapeIs(Check.bytes(6, 40)).drawnIs("what was drawn", inUse().drawn());
        run.source(176, 0, 1, 11, 1, 200, 24, 0);
    }

    static void promise8_aNewOneInItsPlaceBeginsAnew() {
        for (int kind = 0; kind < 8; kind++) {
            int of = kind;
            Run bare = Kinds.opened(kind, true, 9, 0);
            Run run = bare.tape(3).then(well -> well.draw(0, 40, 0, false)).then(well -> well.close(0));
            run = run.waiting(Kinds.first(kind, 128)).answers(0, "open", well -> well.open(of, 128, true, 9));
            run.stateIs("V", 0, 0, bare.state(0, 0)).stateIs("C or K", 0, 1, bare.state(0, 1));
            run.generator(0, 2, 1).generator(0, 6, 0).generator(0, 7, 1);
        }
    }
}
