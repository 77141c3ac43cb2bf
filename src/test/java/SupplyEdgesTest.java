import java.util.Arrays;

/** Promises 1 to 6, and what the document says of the supply: a test for each boundary that a sentence names. */
public final class SupplyEdgesTest {
    private static final int NONE = BitWell.NONE;
    private static final int LEAST = Integer.MIN_VALUE;
    private static final int GREATEST = Integer.MAX_VALUE;

    private SupplyEdgesTest() {
    }

    public static void main(String[] args) throws IllegalAccessException {
        Cases.run(SupplyEdgesTest.class, 1, 2, 3, 4, 5, 6);
    }

    private static void feedIsTaken(Run run, int want) {
        run.answers(want, "feed", well -> well.feed(1, 2, 3, 4, 5));
    }

    private static void feedIsRefused(Run run) {
        run.refuses(NONE, "feed", well -> well.feed(1, 2, 3, 4, 5));
    }

    private static void endIsRefused(Run run, int n) {
        run.refuses(NONE, "end(" + n + ")", well -> well.end(n));
    }

    private static Run supplied(Run run, Object want) {
        return run.answers(want, "supply()", BitWell::supply);
    }

    private static Run tests(int repeats, int window, int part) {
        return new Run().answers(true, "tests(" + repeats + ", " + window + ", " + part + ")",
                well -> well.tests(repeats, window, part));
    }

    private static void testsAreRefused(Run run, int repeats, int window, int part) {
        run.refuses(false, "tests(" + repeats + ", " + window + ", " + part + ")",
                well -> well.tests(repeats, window, part));
    }

    /** A supply that holds bytes, and settings that are not the first ones. */
    private static Run inUse() {
        return new Run().then(well -> well.tests(7, 100, 9)).supply("0102030303").tape("0303");
    }

    // 1: "An empty TAPE, an empty SUPPLY, no generators, nothing DRAWN."

    static void promise1_emptyTape() {
        new Run().tapeIs(new byte[0]);
    }

    static void promise1_emptySupply() {
        new Run().source(0, 0, 0, NONE, 0, 0, 0, 0);
    }

    static void promise1_noGenerators() {
        for (int g = 0; g < 4; g++) {
            int number = g;
            new Run().generator(g, 0, NONE);
            new Run().stateIs("V", g, 0, new byte[0]);
            new Run().refuses(false, "close(" + g + ")", well -> well.close(number));
        }
    }

    static void promise1_nothingDrawn() {
        new Run().size(0).answers(NONE, "drawn(0)", well -> well.drawn(0));
    }

    static void promise1_objectsAreApart() {
        BitWell used = new Run().waiting(100).then(well -> well.open(0, 128, true, 9)).tape(20).made();
        used.digest(true);
        new Run().tapeIs(new byte[0]).size(0).source(0, 0, 0, NONE, 0, 0, 0, 0).generator(0, 0, NONE);
    }

    // 2: "Twenty bytes come behind the TAPE, of each number the highest first: how many it has;
    // NONE if these would be more than 240."

    static void promise2_twentyBytesOnAnEmptyTape() {
        feedIsTaken(new Run(), 20);
    }

    static void promise2_highestByteFirst() {
        new Run().then(well -> well.feed(0x01020304, LEAST, GREATEST, -1, 0)).tapeIs(
                new byte[] {1, 2, 3, 4, -128, 0, 0, 0, 127, -1, -1, -1, -1, -1, -1, -1, 0, 0, 0, 0});
    }

    static void promise2_behindACutTape() {
        Run run = new Run().tape("0a0b0c").then(well -> well.feed(1, 2, 3, 4, 5));
        run.tapeIs(new byte[] {10, 11, 12, 0, 0, 0, 1, 0, 0, 0, 2, 0, 0, 0, 3, 0, 0, 0, 4, 0, 0, 0, 5});
    }

    static void promise2_from220UpTo240() {
        feedIsTaken(new Run().tape(220), 240);
    }

    static void promise2_from221IsRefused() {
        feedIsRefused(new Run().tape(221));
    }

    static void promise2_aFullTapeRefuses() {
        feedIsRefused(new Run().tape(240));
    }

    static void promise2_twelveFeedsFillATape() {
        Run run = new Run();
        for (int k = 1; k <= 12; k++) {
            run = run.answers(20 * k, "feed number " + k, well -> well.feed(1, 2, 3, 4, 5));
        }
        feedIsRefused(run);
    }

    // 3: "The TAPE has its first n bytes alone: n; NONE if it has less, or n is below 0."

    static void promise3_noBytesOfAnEmptyTape() {
        new Run().answers(0, "end(0)", well -> well.end(0)).tapeIs(new byte[0]);
    }

    static void promise3_oneByteOfAnEmptyTape() {
        endIsRefused(new Run(), 1);
    }

    static void promise3_noneOfItsBytes() {
        new Run().tape(23).answers(0, "end(0)", well -> well.end(0)).tapeIs(new byte[0]);
    }

    static void promise3_oneLessThanItHas() {
        new Run().tape(23).answers(22, "end(22)", well -> well.end(22)).tapeIs(Check.bytes(22, 40));
    }

    static void promise3_asManyAsItHas() {
        new Run().tape(23).answers(23, "end(23)", well -> well.end(23)).tapeIs(Check.bytes(23, 40));
    }

    static void promise3_oneMoreThanItHas() {
        endIsRefused(new Run().tape(23), 24);
    }

    static void promise3_aFullTape() {
        new Run().tape(240).answers(240, "end(240)", well -> well.end(240)).tapeIs(Check.bytes(240, 40));
        endIsRefused(new Run().tape(240), 241);
    }

    static void promise3_belowZero() {
        endIsRefused(new Run().tape(23), -1);
        endIsRefused(new Run().tape(23), LEAST);
    }

    static void promise3_farTooMany() {
        endIsRefused(new Run().tape(23), GREATEST);
    }

    static void promise3_bytesThatWereCutStayAway() {
        Run run = new Run().tape(23).then(well -> well.end(3));
        endIsRefused(run, 4);
        run.then(well -> well.feed(0, 0, 0, 0, 0)).tapeIs(Arrays.copyOf(Check.bytes(3, 40), 23));
    }

    // 4: "The TAPE's bytes (empty then) come to the SUPPLY, one by one, through the TESTS: how many wait then".

    static void promise4_anEmptyTape() {
        new Run().refuses(0, "supply()", BitWell::supply);
        new Run().waiting(50).refuses(50, "supply()", BitWell::supply);
    }

    static void promise4_oneByte() {
        supplied(new Run().tape("07"), 1).source(1, 0, 1, 7, 1, 1, 0, 0).tapeIs(new byte[0]);
    }

    static void promise4_aFullTape() {
        supplied(new Run().tape(240), 240).tapeIs(new byte[0]).source(240, 0);
    }

    // "bytes that wait, at most 1000, the first one is the next"; "-2, doing nothing: more than 1000 would wait."

    static void promise4_1000Wait() {
        supplied(new Run().waiting(960).tape(40), 1000).source(1000, 0).tapeIs(new byte[0]);
    }

    static void promise4_1001WouldWait() {
        new Run().waiting(960).tape(41).refuses(-2, "supply()", BitWell::supply);
        new Run().waiting(761).tape(240).refuses(-2, "supply()", BitWell::supply);
    }

    static void promise4_fullAndAnEmptyTape() {
        new Run().waiting(1000).refuses(1000, "supply()", BitWell::supply);
    }

    static void promise4_fullAndOneByte() {
        new Run().waiting(1000).tape("07").refuses(-2, "supply()", BitWell::supply);
    }

    static void promise4_fullAndBytesThatWouldFail() {
        new Run().waiting(996).tape("0707070707").refuses(-2, "supply()", BitWell::supply);
    }

    static void promise4_theByteAheadIsNoneOfARefusedTape() {
        // What came last is 7: a second one makes a run, and the refused bytes have not come between.
        Run run = new Run().waiting(995).supply("07").tape("0808080808").then(BitWell::supply);
        supplied(run.tape("07"), 997).source(997, 0, 2);
    }

    static void promise4_roomAgainBehindATaking() {
        Run run = new Run().waiting(1000).then(well -> well.open(0, 112, false, 1)).source(979);
        supplied(run.tape(21), 1000);
        run.tape(22).refuses(-2, "supply()", BitWell::supply);
    }

    static void promise4_theFirstThatCameIsTheNext() {
        byte[] bytes = Check.bytes(96, 3);
        Run run = new Run().supply(Arrays.copyOf(bytes, 47)).supply(Arrays.copyOfRange(bytes, 47, 96));
        run = run.then(well -> well.open(7, 256, false, 1)).then(well -> well.open(7, 256, false, 1));
        byte[] stream = Kinds.stream(new byte[32], new byte[16], 48);
        for (int g = 0; g < 2; g++) {
            byte[] mixed = Oracle.xor(stream, Arrays.copyOfRange(bytes, 48 * g, 48 * g + 48));
            run.stateIs("K", g, 1, Arrays.copyOf(mixed, 32));
            run.stateIs("V", g, 0, Arrays.copyOfRange(mixed, 32, 48));
        }
    }

    // "NONE if it is UNSOUND (ahead: nothing comes, the TAPE stays; or by one of these)".

    static void promise4_unsoundAhead() {
        new Run().supply("0707070707").tape("0102").refuses(NONE, "supply()", BitWell::supply);
        new Run().supply("0707070707").tape(240).refuses(NONE, "supply()", BitWell::supply);
    }

    static void promise4_unsoundAheadAndAnEmptyTape() {
        new Run().supply("0707070707").refuses(NONE, "supply()", BitWell::supply);
    }

    static void promise4_unsoundByTheFirstByte() {
        Run run = new Run().supply("0107070707").tape("0708090a");
        supplied(run, NONE).source(0, 1, 5, 1, 1, 6, 0, 1).tapeIs(new byte[0]);
    }

    static void promise4_unsoundByAByteBetween() {
        Run run = new Run().tape("0102020202020304");
        supplied(run, NONE).source(0, 1, 5, 1, 1, 6, 0, 1).tapeIs(new byte[0]);
    }

    static void promise4_unsoundByTheLastByte() {
        Run run = new Run().tape("010202020202");
        supplied(run, NONE).source(0, 1, 5, 1, 1, 6, 0, 1).tapeIs(new byte[0]);
    }

    static void promise4_unsoundMakesAllThatWaitedGo() {
        Run run = new Run().waiting(1000).then(well -> well.open(0, 112, false, 1)).source(979);
        supplied(run.tape("ee".repeat(5)), NONE).source(0, 1);
    }

    // "if it is the byte that came ahead of it, the RUN is one more, else 1 (RUN 0 ahead of the first):
    // RUN is REPEATS: UNSOUND."

    static void promise4_theFirstByteIsARunOf1() {
        for (String first : new String[] {"00", "ff", "01"}) {
            supplied(new Run().tape(first), 1).source(1, 0, 1);
            supplied(new Run().tape(first + first), 2).source(2, 0, 2);
        }
    }

    static void promise4_aRunOneShortOfRepeats() {
        supplied(new Run().tape("0907070707"), 5).source(5, 0, 4, 9, 1, 5, 0, 0);
    }

    static void promise4_aRunOfRepeats() {
        supplied(new Run().tape("090707070707"), NONE).source(0, 1, 5, 9, 1, 6, 0, 1);
    }

    static void promise4_anotherByteEndsARun() {
        supplied(new Run().tape("0707070708070707070809"), 11).source(11, 0, 1);
        supplied(new Run().tape("070707070807070707"), 9).source(9, 0, 4);
    }

    static void promise4_aRunGoesOnFromTapeToTape() {
        Run run = new Run().supply("09070707").supply("07");
        run.source(5, 0, 4);
        supplied(run.tape("07"), NONE);
    }

    static void promise4_aRunGoesOnBehindBytesThatWent() {
        Run run = new Run().waiting(17).supply("07070707").then(well -> well.open(0, 112, false, 1));
        run.source(0, 0, 4);
        supplied(run.tape("07"), NONE).source(0, 1, 5);
    }

    // "without a SAMPLE it is that, MET 1, SEEN 1; else MET is one more if it is the SAMPLE, and, if it is that
    // and MET is PART: UNSOUND; SEEN is one more, and if that is WINDOW there is no SAMPLE."

    static void promise4_theFirstByteIsTheSample() {
        supplied(new Run().tape("00"), 1).source(1, 0, 1, 0, 1, 1);
        supplied(new Run().tape("ff"), 1).source(1, 0, 1, 255, 1, 1);
    }

    static void promise4_metOneShortOfPart() {
        supplied(new Run().tape("0102".repeat(39)), 78).source(78, 0, 1, 1, 39, 78, 0, 0);
    }

    static void promise4_metIsPart() {
        supplied(new Run().tape("0102".repeat(39) + "01"), NONE).source(0, 1, 1, 1, 40, 79, 0, 1);
    }

    static void promise4_anotherByteMayComeAsOften() {
        supplied(new Run().tape("01" + "0203".repeat(100)), 201).source(201, 0, 1, 1, 1, 201);
    }

    static void promise4_aByteThatIsNotTheSampleIsNotMet() {
        supplied(new Run().tape("0102".repeat(39) + "020202"), 81).source(81, 0, 4, 1, 39, 81);
    }

    static void promise4_seenOneShortOfTheWindow() {
        new Run().supply(Check.bytes(511, 0)).source(511, 0, 1, 0, 2, 511);
    }

    static void promise4_seenIsTheWindow() {
        new Run().supply(Check.bytes(512, 0)).source(512, 0, 1, NONE, 0, 0);
    }

    static void promise4_theNextWindowHasASampleOfItsOwn() {
        Run run = new Run().supply(Check.bytes(512, 0)).supply("33");
        run.source(513, 0, 1, 0x33, 1, 1);
        run.supply("00").source(514, 0, 1, 0x33, 1, 2);
        run.supply("33").source(514, 0, 2, 0x33, 2, 2);
    }

    static void promise4_metBeginsAnewWithTheWindow() {
        Run run = tests(40, 16, 3).supply("01020304050607080901020304050607");
        run.source(16, 0, 1, NONE, 0, 0);
        run.supply("010201").source(19, 0, 1, 1, 2, 3, 0, 0);
    }

    static void promise4_metIsPartWithTheWindowsLastByte() {
        Run run = tests(40, 16, 3).supply("010203040506070809010203040506");
        run.source(15, 0, 1, 1, 2, 15);
        supplied(run.tape("01"), NONE).source(0, 1);
    }

    // "UNSOUND (both are asked of a byte: one is enough): nothing waits any more, nothing more of these bytes comes."

    static void promise4_theRunAloneIsEnough() {
        supplied(tests(3, 16, 16).tape("01020202"), NONE).source(0, 1, 3, 1, 1, 4, 0, 1);
    }

    static void promise4_metAloneIsEnough() {
        supplied(tests(3, 16, 3).tape("0102010201"), NONE).source(0, 1, 1, 1, 3, 5, 0, 1);
    }

    static void promise4_bothByOneByteAreOneTime() {
        supplied(tests(3, 16, 3).tape("010101"), NONE).source(0, 1, 3, 1, 3, 3, 0, 1);
    }

    static void promise4_nothingMoreOfTheseBytesComes() {
        Run bare = tests(3, 16, 16).supply("01020202");
        bare.sameAs(tests(3, 16, 16).supply("010202020202020101010304"), "bytes behind the failing one");
    }

    // 5: "REPEATS 2 to 40, WINDOW 16 to 1024, PART 2 to WINDOW; false for others."

    static void promise5_repeats1() {
        testsAreRefused(inUse(), 1, 512, 40);
    }

    static void promise5_repeats2() {
        Run run = tests(2, 512, 40).supply("07").source(1, 0, 1);
        supplied(run.tape("07"), NONE).source(0, 1, 2, 7, 2, 2);
    }

    static void promise5_repeats40() {
        Run run = tests(40, 512, 60).supply("07".repeat(39)).source(39, 0, 39);
        supplied(run.tape("07"), NONE).source(0, 1, 40, 7, 40, 40);
    }

    static void promise5_repeats41() {
        testsAreRefused(inUse(), 41, 512, 40);
    }

    static void promise5_window15() {
        testsAreRefused(inUse(), 5, 15, 10);
    }

    static void promise5_window16() {
        Run run = tests(5, 16, 10).supply(Check.bytes(15, 0)).source(15, 0, 1, 0, 1, 15);
        run.supply("aa").source(16, 0, 1, NONE, 0, 0);
    }

    static void promise5_window1024() {
        Run run = tests(5, 1024, 40).supply(Check.bytes(960, 0)).then(well -> well.open(0, 256, false, 1));
        run = run.supply(Check.bytes(63, 200)).source(975, 0, 1, 0, 4, 1023);
        run.supply("aa").source(976, 0, 1, NONE, 0, 0);
    }

    static void promise5_window1025() {
        testsAreRefused(inUse(), 5, 1025, 40);
    }

    static void promise5_part1() {
        testsAreRefused(inUse(), 5, 512, 1);
    }

    static void promise5_part2() {
        Run run = tests(5, 512, 2).supply("0102").source(2, 0, 1, 1, 1, 2);
        supplied(run.tape("01"), NONE).source(0, 1, 1, 1, 2, 3);
    }

    static void promise5_partIsTheWindow() {
        Run run = tests(40, 16, 16).supply("07".repeat(15)).source(15, 0, 15, 7, 15, 15);
        supplied(run.tape("07"), NONE).source(0, 1, 16);
        tests(40, 1024, 1024);
    }

    static void promise5_partOneAboveTheWindow() {
        testsAreRefused(inUse(), 5, 16, 17);
        testsAreRefused(inUse(), 5, 512, 513);
        testsAreRefused(inUse(), 5, 1024, 1025);
    }

    static void promise5_allAtTheirLeast() {
        tests(2, 16, 2);
    }

    static void promise5_allAtTheirMost() {
        tests(40, 1024, 1024);
    }

    static void promise5_noneOrBelow() {
        for (int wrong : new int[] {0, -1, -5, LEAST}) {
            testsAreRefused(inUse(), wrong, 512, 40);
            testsAreRefused(inUse(), 5, wrong, 2);
            testsAreRefused(inUse(), 5, wrong, wrong);
            testsAreRefused(inUse(), 5, 512, wrong);
        }
    }

    static void promise5_farTooMany() {
        testsAreRefused(inUse(), GREATEST, 512, 40);
        testsAreRefused(inUse(), 5, GREATEST, 40);
        testsAreRefused(inUse(), 5, GREATEST, GREATEST);
        testsAreRefused(inUse(), 5, 512, GREATEST);
    }

    static void promise5_othersLeaveItUnsound() {
        testsAreRefused(inUse().supply("07".repeat(7)), 1, 512, 40);
    }

    // The settings of a new object: "REPEATS (at first 5), WINDOW (512), PART (40)".

    static void promise5_theFirstSettings() {
        new Run().sameAs(tests(5, 512, 40), "tests(5, 512, 40) on a new object");
    }

    // "The SUPPLY is emptied, not UNSOUND, the TESTS begin anew (no byte came)."

    static void promise5_theSupplyIsEmptied() {
        Run run = new Run().waiting(1000).then(well -> well.tests(5, 512, 40));
        run.source(0, 0, 0, NONE, 0, 0, 0, 0);
        supplied(run.tape(240), 240);
    }

    static void promise5_notUnsound() {
        Run run = new Run().supply("0707070707").source(0, 1).then(well -> well.tests(5, 512, 40));
        run.source(0, 0, 0, NONE, 0, 0, 0, 1);
        supplied(run.tape("07070707"), 4).source(4, 0, 4, 7, 4, 4, 0, 1);
    }

    static void promise5_noByteCame() {
        Run run = new Run().supply("07070707").then(well -> well.tests(5, 512, 40));
        supplied(run.tape("07"), 1).source(1, 0, 1, 7, 1, 1);
        run.supply("07070707").source(4, 0, 4, 7, 4, 4);
    }

    static void promise5_whatIsCountedInAllStays() {
        Run run = new Run().waiting(21).then(well -> well.open(0, 112, false, 1)).supply("0707070707");
        run.then(well -> well.tests(9, 99, 9)).source(0, 0, 0, NONE, 0, 0, 21, 1);
    }

    static void promise5_theTapeStays() {
        new Run().tape(33).then(well -> well.tests(9, 99, 9)).tapeIs(Check.bytes(33, 40));
    }

    // 6: "0 bytes that wait, .. 7 how often it became UNSOUND. NONE for others."

    static void promise6_below0() {
        inUse().refuses(NONE, "source(-1)", well -> well.source(-1));
        inUse().refuses(NONE, "source(least)", well -> well.source(LEAST));
    }

    static void promise6_above7() {
        inUse().refuses(NONE, "source(8)", well -> well.source(8));
        inUse().refuses(NONE, "source(greatest)", well -> well.source(GREATEST));
    }

    static void promise6_lookingChangesNothing() {
        for (int what = 0; what < 8; what++) {
            int at = what;
            int want = inUse().made().source(what);
            inUse().refuses(want, "source(" + what + ")", well -> well.source(at));
        }
    }

    static void promise6_withoutASample() {
        new Run().source(0, 0, 0, NONE, 0, 0);
        tests(5, 16, 9).supply(Check.bytes(16, 0)).source(16, 0, 1, NONE, 0, 0);
        new Run().supply("09").then(well -> well.tests(5, 16, 9)).source(0, 0, 0, NONE, 0, 0);
    }

    static void promise6_sampleOf0And255() {
        new Run().supply("00").source(1, 0, 1, 0, 1, 1);
        new Run().supply("ff").source(1, 0, 1, 255, 1, 1);
    }

    static void promise6_takenInAll() {
        Run run = new Run().waiting(200);
        run.source(200, 0, 1, 11, 1, 200, 0);
        run = run.then(well -> well.open(0, 112, true, 1));
        run.source(179, 0, 1, 11, 1, 200, 21);
        run = run.then(well -> well.reseed(0, false));
        run.source(165, 0, 1, 11, 1, 200, 35);
        run = run.then(well -> well.draw(0, 1, 0, true));
        run.source(151, 0, 1, 11, 1, 200, 49);
        run = run.then(well -> well.close(0)).then(well -> well.open(7, 112, false, 1));
        run.source(103, 0, 1, 11, 1, 200, 97);
    }

    static void promise6_refusedTakingsAreNotTaken() {
        new Run().waiting(20).then(well -> well.open(0, 112, true, 1)).source(20, 0, 1, 11, 1, 20, 0);
    }

    static void promise6_bytesThatWentUnsoundAreNotTaken() {
        new Run().waiting(20).supply("0707070707").source(0, 1, 5, 11, 1, 25, 0, 1);
    }

    static void promise6_howOftenItBecameUnsound() {
        Run run = new Run();
        for (int times = 1; times <= 3; times++) {
            run = run.then(well -> well.tests(5, 512, 40)).supply("0707070707").supply("0707070707");
            run.source(0, 1, 5, 7, 5, 5, 0, times);
        }
    }

    // "(An UNSOUND one's 2 to 5 are as they were with the byte that made it so: MET, SEEN and the SAMPLE with it.)"

    static void promise6_unsoundByTheRun() {
        new Run().supply("01020202020203").source(0, 1, 5, 1, 1, 6);
    }

    static void promise6_unsoundByTheRunOfTheSample() {
        new Run().supply("010101010102").source(0, 1, 5, 1, 5, 5);
    }

    static void promise6_unsoundByMet() {
        tests(9, 16, 3).supply("0102010304010506").source(0, 1, 1, 1, 3, 6);
    }

    static void promise6_unsoundByTheRunWithANewSample() {
        Run run = tests(3, 16, 9).supply("0102030405060708090a0b0c0d0e0909").source(16, 0, 2, NONE, 0, 0);
        run.supply("0901").source(0, 1, 3, 9, 1, 1, 0, 1);
    }

    // "SEEN is one more, and if that is WINDOW there is no SAMPLE. UNSOUND (both are asked of a byte: one is enough)".

    static void promise6_unsoundByMetWithTheWindowsLastByte() {
        tests(40, 16, 16).supply("05".repeat(16)).source(0, 1, 16, NONE, 0, 0, 0, 1);
        tests(40, 16, 3).supply("01020304050607080901020304050601").source(0, 1, 1, NONE, 0, 0, 0, 1);
    }

    static void promise6_unsoundByTheRunWithTheWindowsLastByte() {
        tests(3, 16, 16).supply("0102030405060708090a0b0c0d0e0e0e").source(0, 1, 3, NONE, 0, 0, 0, 1);
    }

    static void promise6_unsoundOneByteAheadOfTheWindowsLast() {
        tests(40, 16, 15).supply("05".repeat(16)).source(0, 1, 15, 5, 15, 15, 0, 1);
    }
}
