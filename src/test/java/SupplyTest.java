import java.util.Arrays;

/** Promises 1 to 6: a new object, the tape, the supply and its tests. */
public final class SupplyTest {
    private static final int NONE = BitWell.NONE;

    public static void main(String[] args) {
        newObject();
        feedFillsTheTape();
        endCutsTheTape();
        bytesComeInOrder();
        supplyHoldsAThousand();
        runsAreCounted();
        runOfRepeatsIsUnsound();
        runsGoOnOverSupplies();
        samplesAreCounted();
        partOfAWindowIsUnsound();
        windowEnds();
        bothTestsSeeAByte();
        unsoundAtTheWindowsEnd();
        unsoundSupplyStaysSo();
        firstSettings();
        settingsHaveBounds();
        settingsBeginAnew();
        sourceOfOthers();
        Check.finish();
    }

    private static void source(BitWell well, int... want) {
        for (int what = 0; what < want.length; what++) {
            Check.same("source(" + what + ")", want[what], well.source(what));
        }
    }

    private static void newObject() {
        BitWell well = new BitWell();
        Check.same("NONE", -1, NONE);
        Check.same("end(1) of an empty tape", NONE, well.end(1));
        Check.same("end(0) of an empty tape", 0, well.end(0));
        Check.same("size()", 0, well.size());
        Check.same("drawn(0)", NONE, well.drawn(0));
        source(well, 0, 0, 0, NONE, 0, 0, 0, 0);
        for (int g = 0; g < 4; g++) {
            Check.same("generator(" + g + ", 0)", NONE, well.generator(g, 0));
            Check.same("state(" + g + ", 0, 0)", NONE, well.state(g, 0, 0));
            Check.same("close(" + g + ")", false, well.close(g));
        }
        Check.same("supply() of nothing", 0, well.supply());
    }

    private static void feedFillsTheTape() {
        BitWell well = new BitWell();
        for (int k = 1; k <= 12; k++) {
            Check.same("feed", 20 * k, well.feed(0x01020304, -1, 0x80000000, 0x7fffffff, 5));
        }
        Check.same("feed beyond 240", NONE, well.feed(1, 2, 3, 4, 5));
        Check.same("end(240)", 240, well.end(240));
        Check.same("end(221)", 221, well.end(221));
        Check.same("feed beyond 240 by one", NONE, well.feed(1, 2, 3, 4, 5));
        Check.same("end(222), which a refused feed does not give", NONE, well.end(222));
        Check.same("end(220)", 220, well.end(220));
        Check.same("feed up to 240", 240, well.feed(1, 2, 3, 4, 5));
        well.end(20);
        well.digest(false);
        Check.same("the bytes", Check.hex(Oracle.hash(false, Oracle.join(Oracle.number(0x01020304, 4),
                Oracle.number(-1, 4), Oracle.number(0x80000000, 4), Oracle.number(0x7fffffff, 4),
                Oracle.number(5, 4)))), Check.drawn(well));
    }

    private static void endCutsTheTape() {
        BitWell well = new BitWell();
        well.feed(0x61626364, 0, 0, 0, 0);
        Check.same("end(-1)", NONE, well.end(-1));
        Check.same("end(least)", NONE, well.end(Integer.MIN_VALUE));
        Check.same("end(21)", NONE, well.end(21));
        Check.same("end(greatest)", NONE, well.end(Integer.MAX_VALUE));
        Check.same("end(20)", 20, well.end(20));
        Check.same("end(3)", 3, well.end(3));
        Check.same("end(4)", NONE, well.end(4));
        well.digest(false);
        Check.same("the first three", Check.hex(Oracle.hash(false, new byte[] {0x61, 0x62, 0x63})),
                Check.drawn(well));
        Check.same("feed behind three", 23, well.feed(1, 2, 3, 4, 5));
        Check.same("end(0)", 0, well.end(0));
    }

    private static void bytesComeInOrder() {
        BitWell well = new BitWell();
        byte[] bytes = Check.bytes(96, 3);
        Check.supply(well, bytes);
        Check.same("the tape is empty then", NONE, well.end(1));
        for (int g = 0; g < 2; g++) {
            Check.same("open", g, well.open(7, 256, false, 1));
            byte[] taken = Arrays.copyOfRange(bytes, 48 * g, 48 * g + 48);
            byte[] v = {};
            for (int k = 1; k <= 3; k++) {
                v = Oracle.join(v, Oracle.encrypt(new byte[32], Oracle.number(k, 16)));
            }
            String state = Check.hex(Oracle.xor(v, taken));
            Check.same("K of the bytes in their order", state.substring(0, 64), Check.state(well, g, 1));
            Check.same("V of the bytes in their order", state.substring(64), Check.state(well, g, 0));
        }
        source(well, 0, 0, 1, 3, 1, 96, 96, 0);
    }

    private static void supplyHoldsAThousand() {
        BitWell well = new BitWell();
        Check.supply(well, Check.bytes(960, 0));
        Check.tape(well, Check.bytes(41, 0));
        int run = well.source(2);
        int seen = well.source(5);
        Check.same("supply() beyond 1000", -2, well.supply());
        Check.same("nothing has come", 960, well.source(0));
        Check.same("no run was counted", run, well.source(2));
        Check.same("no byte was seen", seen, well.source(5));
        Check.same("the tape stays", 41, well.end(41));
        Check.same("end(40)", 40, well.end(40));
        Check.same("supply() up to 1000", 1000, well.supply());
        Check.same("supply() of nothing", 1000, well.supply());
        Check.tape(well, "09");
        Check.same("supply() of one more", -2, well.supply());
        well.end(0);
        Check.same("open", 0, well.open(0, 128, false, 1));
        Check.same("bytes that wait", 976, well.source(0));
        Check.tape(well, Check.bytes(24, 1));
        Check.same("supply() where bytes have gone", 1000, well.supply());
        Check.same("bytes that were taken", 24, well.source(6));
    }

    private static void runsAreCounted() {
        BitWell well = new BitWell();
        Check.supply(well, "0a");
        source(well, 1, 0, 1, 10, 1, 1);
        Check.supply(well, "0a0a");
        source(well, 3, 0, 3, 10, 3, 3);
        Check.supply(well, "0b");
        source(well, 4, 0, 1, 10, 3, 4);
        Check.supply(well, "0b0a");
        source(well, 6, 0, 1, 10, 4, 6, 0, 0);
    }

    private static void runOfRepeatsIsUnsound() {
        BitWell well = new BitWell();
        Check.same("tests(2, 16, 16)", true, well.tests(2, 16, 16));
        Check.tape(well, "0102030304");
        Check.same("supply() with a run of 2", NONE, well.supply());
        source(well, 0, 1, 2, 1, 1, 4, 0, 1);
        Check.same("the tape is empty", NONE, well.end(1));
        Check.same("tests(40, 1024, 1024)", true, well.tests(40, 1024, 1024));
        Check.supply(well, "ff".repeat(39));
        source(well, 39, 0, 39, 255, 39, 39, 0, 1);
        Check.tape(well, "ff");
        Check.same("supply() with a run of 40", NONE, well.supply());
        source(well, 0, 1, 40, 255, 40, 40, 0, 2);
    }

    private static void runsGoOnOverSupplies() {
        BitWell well = new BitWell();
        Check.supply(well, Oracle.join(Check.bytes(20, 1), new byte[] {9, 9, 9, 9}));
        Check.same("open", 0, well.open(0, 128, false, 1));
        Check.same("nothing waits", 0, well.source(0));
        Check.same("the run is still known", 4, well.source(2));
        Check.tape(well, "09");
        Check.same("supply() with the fifth one", NONE, well.supply());
        source(well, 0, 1, 5, 1, 1, 25, 24, 1);
    }

    private static void samplesAreCounted() {
        BitWell well = new BitWell();
        Check.same("tests(40, 16, 16)", true, well.tests(40, 16, 16));
        Check.supply(well, "000102000304");
        source(well, 6, 0, 1, 0, 2, 6);
        Check.supply(well, "0500");
        source(well, 8, 0, 1, 0, 3, 8);
    }

    private static void partOfAWindowIsUnsound() {
        BitWell well = new BitWell();
        Check.same("tests(40, 16, 3)", true, well.tests(40, 16, 3));
        Check.supply(well, "0102010202020202");
        source(well, 8, 0, 5, 1, 2, 8);
        Check.tape(well, "0103");
        Check.same("supply() with the third one", NONE, well.supply());
        source(well, 0, 1, 1, 1, 3, 9, 0, 1);
    }

    private static void windowEnds() {
        BitWell well = new BitWell();
        Check.same("tests(40, 16, 3)", true, well.tests(40, 16, 3));
        Check.supply(well, "010203040506070801090a0b0c0d0e");
        source(well, 15, 0, 1, 1, 2, 15);
        Check.supply(well, "0f");
        source(well, 16, 0, 1, NONE, 0, 0);
        Check.supply(well, "01");
        source(well, 17, 0, 1, 1, 1, 1);
        Check.supply(well, "0202");
        source(well, 19, 0, 2, 1, 1, 3);
        Check.supply(well, "01");
        source(well, 20, 0, 1, 1, 2, 4, 0, 0);
    }

    private static void bothTestsSeeAByte() {
        BitWell well = new BitWell();
        Check.same("tests(3, 16, 3)", true, well.tests(3, 16, 3));
        Check.tape(well, "070707");
        Check.same("supply() that fails by both", NONE, well.supply());
        source(well, 0, 1, 3, 7, 3, 3, 0, 1);
        Check.same("tests(3, 16, 9)", true, well.tests(3, 16, 9));
        Check.supply(well, "0102030405060708090a0b0c0d0e0909");
        source(well, 16, 0, 2, NONE, 0, 0);
        Check.tape(well, "09");
        Check.same("supply() that fails by the run, with a new sample", NONE, well.supply());
        source(well, 0, 1, 3, 9, 1, 1, 0, 2);
    }

    /** A byte that fails and is the window's last one ends the window all the same. */
    private static void unsoundAtTheWindowsEnd() {
        BitWell well = new BitWell();
        Check.same("tests(40, 16, 16)", true, well.tests(40, 16, 16));
        Check.tape(well, "05".repeat(16));
        Check.same("supply() of a window of one byte", NONE, well.supply());
        source(well, 0, 1, 16, NONE, 0, 0, 0, 1);
    }

    private static void unsoundSupplyStaysSo() {
        BitWell well = new BitWell();
        Check.supply(well, Check.bytes(100, 0));
        Check.same("open", 0, well.open(0, 112, true, 1));
        Check.tape(well, "0101010101");
        Check.same("supply() with a run of 5", NONE, well.supply());
        Check.same("nothing waits", 0, well.source(0));
        Check.tape(well, "0203");
        Check.same("supply() ahead of tests", NONE, well.supply());
        Check.same("the tape stays", 2, well.end(2));
        Check.same("one failure", 1, well.source(7));
        Check.same("the run stays", 5, well.source(2));
        well.end(0);
        Check.same("supply() of nothing", NONE, well.supply());
        Check.same("reseed finds no bytes", 6, well.reseed(0, false));
        Check.same("open finds no bytes", -6, well.open(0, 112, true, 1));
        Check.same("tests that are wrong", false, well.tests(1, 16, 2));
        Check.same("still unsound", 1, well.source(1));
        Check.same("tests that fit", true, well.tests(5, 512, 40));
        source(well, 0, 0, 0, NONE, 0, 0, 21, 1);
        Check.supply(well, "01010101");
        Check.same("a run from the start", 4, well.source(2));
    }

    private static void firstSettings() {
        BitWell well = new BitWell();
        Check.supply(well, "01010101");
        Check.tape(well, "01");
        Check.same("REPEATS is 5 at first", NONE, well.supply());
        well = new BitWell();
        Check.supply(well, "0102".repeat(39));
        Check.same("39 are met", 39, well.source(4));
        Check.tape(well, "01");
        Check.same("PART is 40 at first", NONE, well.supply());
        Check.same("40 are met", 40, well.source(4));
        well = new BitWell();
        Check.supply(well, Check.bytes(511, 0));
        Check.same("511 are seen", 511, well.source(5));
        Check.supply(well, "00");
        Check.same("WINDOW is 512 at first", 0, well.source(5));
        Check.same("no sample", NONE, well.source(3));
    }

    private static void settingsHaveBounds() {
        BitWell well = new BitWell();
        Check.supply(well, "0102");
        int[][] wrong = {{1, 16, 2}, {41, 16, 2}, {2, 15, 2}, {2, 1025, 2}, {2, 16, 1}, {2, 16, 17}, {2, 16, 0},
            {0, 512, 40}, {-5, 512, 40}, {5, -512, 40}, {5, 512, -40}, {5, 512, 513}, {5, 0, 0},
            {Integer.MAX_VALUE, Integer.MAX_VALUE, Integer.MAX_VALUE},
            {Integer.MIN_VALUE, Integer.MIN_VALUE, Integer.MIN_VALUE}};
        for (int[] one : wrong) {
            Check.same("tests(" + one[0] + ", " + one[1] + ", " + one[2] + ")", false,
                    well.tests(one[0], one[1], one[2]));
        }
        source(well, 2, 0, 1, 1, 1, 2);
        Check.supply(well, "020202");
        Check.tape(well, "02");
        Check.same("wrong settings are not kept", NONE, well.supply());
        int[][] right = {{2, 16, 2}, {40, 16, 16}, {2, 1024, 2}, {40, 1024, 1024}, {5, 512, 40}};
        for (int[] one : right) {
            Check.same("tests(" + one[0] + ", " + one[1] + ", " + one[2] + ")", true,
                    well.tests(one[0], one[1], one[2]));
        }
    }

    private static void settingsBeginAnew() {
        BitWell well = new BitWell();
        Check.supply(well, "0707");
        Check.tape(well, "0708");
        Check.same("tests(3, 20, 20)", true, well.tests(3, 20, 20));
        source(well, 0, 0, 0, NONE, 0, 0, 0, 0);
        Check.same("the tape stays, no byte came ahead of it", 2, well.supply());
        source(well, 2, 0, 1, 7, 1, 2);
    }

    private static void sourceOfOthers() {
        BitWell well = new BitWell();
        Check.supply(well, "0102");
        for (int what : new int[] {-1, 8, 9, 100, Integer.MIN_VALUE, Integer.MAX_VALUE}) {
            Check.same("source(" + what + ")", NONE, well.source(what));
        }
    }
}
