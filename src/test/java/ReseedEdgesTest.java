import java.util.Arrays;

/** Promise 9: a test for each boundary that a sentence on seeding anew names. */
public final class ReseedEdgesTest {
    private static final int LEAST = Integer.MIN_VALUE;
    private static final int GREATEST = Integer.MAX_VALUE;

    private ReseedEdgesTest() {
    }

    public static void main(String[] args) throws IllegalAccessException {
        Cases.run(ReseedEdgesTest.class, 9);
    }

    private static Run reseeds(Run run, int want, int g, boolean resistance) {
        return run.answers(want, "reseed(" + g + ", " + resistance + ")", well -> well.reseed(g, resistance));
    }

    private static void reseedIsRefused(Run run, int want, int g, boolean resistance) {
        run.refuses(want, "reseed(" + g + ", " + resistance + ")", well -> well.reseed(g, resistance));
    }

    // 9: "A SEEDING anew, with the TAPE (empty then) as A: 0, or the REFUSAL (1, 4, 5, 6)."
    // "1 no such generator (closed ones, too)."

    static void promise9_numberBelow0() {
        reseedIsRefused(Kinds.inUse(0, true, 9, 50).tape(3), 1, -1, false);
        reseedIsRefused(Kinds.inUse(0, true, 9, 50).tape(3), 1, LEAST, false);
    }

    static void promise9_numberAbove3() {
        reseedIsRefused(Kinds.inUse(0, true, 9, 50).tape(3), 1, 4, false);
        reseedIsRefused(Kinds.inUse(0, true, 9, 50).tape(3), 1, GREATEST, false);
    }

    static void promise9_neverOpened() {
        for (int g = 1; g < 4; g++) {
            reseedIsRefused(Kinds.inUse(0, true, 9, 50).tape(3), 1, g, false);
        }
    }

    static void promise9_closed() {
        reseedIsRefused(Kinds.inUse(0, true, 9, 50).then(well -> well.close(0)).tape(3), 1, 0, false);
    }

    static void promise9_theLastNumber() {
        Run run = new Run().waiting(21 * 4 + 14);
        for (int g = 0; g < 4; g++) {
            run = run.then(well -> well.open(0, 112, false, 1));
        }
        reseeds(run, 0, 3, false).generator(3, 7, 2).generator(2, 7, 1);
    }

    // "4 A is too long (more than SEED, kinds 6, 7)."

    static void promise9_aTapeOfSeed() {
        for (int kind = 0; kind < 8; kind++) {
            reseeds(Kinds.inUse(kind, true, 9, 50).tape(Kinds.SEED[kind]), 0, 0, false).tapeIs(new byte[0]);
        }
    }

    static void promise9_aTapeOneLongerThanSeed() {
        for (int kind = 0; kind < 8; kind++) {
            Run run = Kinds.inUse(kind, true, 9, 50).tape(Kinds.SEED[kind] + 1);
            if (Kinds.bound(kind)) {
                reseedIsRefused(run, 4, 0, false);
            } else {
                reseeds(run, 0, 0, false).tapeIs(new byte[0]);
            }
        }
    }

    static void promise9_aFullTape() {
        for (int kind = 0; kind < 8; kind++) {
            Run run = Kinds.inUse(kind, true, 9, 50).tape(240);
            if (Kinds.bound(kind)) {
                reseedIsRefused(run, 4, 0, false);
            } else {
                reseeds(run, 0, 0, false).tapeIs(new byte[0]);
            }
        }
    }

    static void promise9_anEmptyTape() {
        for (int kind = 0; kind < 8; kind++) {
            reseeds(Kinds.inUse(kind, true, 9, 50).tape(0), 0, 0, false).generator(0, 7, 2);
        }
    }

    // "5 resistance is asked for, and it doesn't RESIST."

    static void promise9_resistanceOfOneThatResists() {
        for (int kind = 0; kind < 8; kind++) {
            Run asked = reseeds(Kinds.inUse(kind, true, 9, 50).tape(3), 0, 0, true);
            asked.sameAs(reseeds(Kinds.inUse(kind, true, 9, 50).tape(3), 0, 0, false), "resistance that is asked for");
        }
    }

    static void promise9_resistanceOfOneThatDoesNot() {
        for (int kind = 0; kind < 8; kind++) {
            reseedIsRefused(Kinds.inUse(kind, false, 9, 50).tape(3), 5, 0, true);
            reseeds(Kinds.inUse(kind, false, 9, 50).tape(3), 0, 0, false).generator(0, 7, 2);
        }
    }

    // "6 the SUPPLY has not so many bytes"; "TAKES F bytes: STRENGTH / 8; SEED, of kinds 6, 7."

    static void promise9_justAsManyBytesWait() {
        for (int kind = 0; kind < 8; kind++) {
            for (int strength : Kinds.STRENGTHS) {
                if (strength <= Kinds.most(kind)) {
                    int first = Kinds.first(kind, strength);
                    int fresh = Kinds.fresh(kind, strength);
                    int of = kind;
                    Run run = new Run().waiting(first + fresh).then(well -> well.open(of, strength, false, 1));
                    reseeds(run.tape(3), 0, 0, false).source(0, 0, 1, 11, 1, first + fresh, first + fresh);
                }
            }
        }
    }

    static void promise9_oneByteTooFewWaits() {
        for (int kind = 0; kind < 8; kind++) {
            for (int strength : Kinds.STRENGTHS) {
                if (strength <= Kinds.most(kind)) {
                    int bytes = Kinds.first(kind, strength) + Kinds.fresh(kind, strength) - 1;
                    int of = kind;
                    Run run = new Run().waiting(bytes).then(well -> well.open(of, strength, false, 1));
                    reseedIsRefused(run.tape(3), 6, 0, false);
                }
            }
        }
    }

    static void promise9_nothingWaits() {
        for (int kind = 0; kind < 8; kind++) {
            reseedIsRefused(Kinds.inUse(kind, true, 9, 0).tape(3), 6, 0, true);
        }
    }

    static void promise9_unsoundNoneWait() {
        for (int kind = 0; kind < 8; kind++) {
            reseedIsRefused(Kinds.inUse(kind, true, 9, 50).supply("0707070707").tape(3), 6, 0, false);
        }
    }

    /** "REFUSALS, the first that holds": every choice of reasons to refuse. */
    static void promise9_theFirstRefusalThatHolds() {
        int[] answers = {1, 4, 5, 6};
        for (int reasons = 0; reasons < 16; reasons++) {
            Run run = Kinds.inUse(6, false, 9, (reasons & 8) != 0 ? 31 : 32).tape((reasons & 2) != 0 ? 33 : 32);
            boolean resistance = (reasons & 4) != 0;
            if (reasons == 0) {
                reseeds(run, 0, 0, resistance);
            } else {
                reseedIsRefused(run, answers[Integer.numberOfTrailingZeros(reasons)], reasons & 1, resistance);
            }
        }
    }

    // "COUNT is 1 behind each seeding."

    static void promise9_countIs1() {
        for (int kind = 0; kind < 8; kind++) {
            Run run = Kinds.inUse(kind, false, 9, 50).then(well -> well.draw(0, 7, 0, false)).generator(0, 2, 3);
            reseeds(run, 0, 0, false).generator(0, 2, 1).generator(0, 6, 47).generator(0, 7, 2)
                    .drawnIs("what was drawn", run.drawn());
        }
    }

    // "Anew: V is DERIVE(0x01 V R A, SEED). Then C is DERIVE(0x00 V, SEED)."

    static void promise9_seedingADigestAnew() {
        for (int kind = 0; kind < 2; kind++) {
            for (int given : new int[] {0, 1, 240}) {
                Run run = Kinds.opened(kind, false, 9, 16).tape(given);
                byte[] r = Arrays.copyOfRange(Check.bytes(40, 11), 24, 40);
                byte[] m = Oracle.join(new byte[] {1}, run.state(0, 0), r, Check.bytes(given, 40));
                byte[] v = Oracle.deriveByDigest(Kinds.great(kind), m, Kinds.SEED[kind]);
                byte[] c = Oracle.deriveByDigest(Kinds.great(kind), Oracle.join(new byte[1], v), Kinds.SEED[kind]);
                reseeds(run, 0, 0, false).stateIs("V", 0, 0, v).stateIs("C", 0, 1, c);
            }
        }
    }

    // "Anew: MIX(R A)."

    static void promise9_seedingAMacAnew() {
        for (int kind = 2; kind < 4; kind++) {
            for (int given : new int[] {0, 1, 240}) {
                Run run = Kinds.opened(kind, false, 9, 16).tape(given);
                byte[] r = Arrays.copyOfRange(Check.bytes(40, 11), 24, 40);
                byte[][] mixed = Kinds.mixedMac(kind, run, Oracle.join(r, Check.bytes(given, 40)));
                reseeds(run, 0, 0, false).stateIs("V", 0, 0, mixed[0]).stateIs("K", 0, 1, mixed[1]);
            }
        }
    }

    // "SEEDING: m is DERIVE(R A, SEED), of 6, 7 R xor PADDED(A, SEED) .. MIX(m)."

    static void promise9_seedingACounterAnew() {
        for (int kind = 4; kind < 8; kind++) {
            int seed = Kinds.SEED[kind];
            int first = Kinds.first(kind, 128);
            int fresh = Kinds.fresh(kind, 128);
            for (int given : new int[] {0, 1, seed - 1, seed, 240}) {
                if (Kinds.bound(kind) && given > seed) {
                    continue;
                }
                Run run = Kinds.opened(kind, false, 9, fresh).tape(given);
                byte[] r = Arrays.copyOfRange(Check.bytes(first + fresh, 11), first, first + fresh);
                byte[] a = Check.bytes(given, 40);
                byte[] m = Kinds.bound(kind) ? Oracle.xor(r, Arrays.copyOf(a, seed))
                        : Oracle.deriveByCipher(Kinds.great(kind), Oracle.join(r, a), seed);
                byte[] mixed = Oracle.xor(Kinds.stream(run.state(0, 1), run.state(0, 0), seed), m);
                reseeds(run, 0, 0, false).stateIs("K", 0, 1, Arrays.copyOf(mixed, seed - 16))
                        .stateIs("V", 0, 0, Arrays.copyOfRange(mixed, seed - 16, seed));
            }
        }
    }
}
