import java.nio.ByteBuffer;
import java.util.Arrays;
import java.util.HexFormat;

/** Promises 7 to 13: generators are opened, seeded anew, asked for bytes, looked at and closed. */
public final class GeneratorsTest {
    private static final int NONE = BitWell.NONE;
    private static final int[] SEED = {55, 111, 32, 64, 32, 48, 32, 48};
    private static final int[] V_LENGTH = {55, 111, 32, 64, 16, 16, 16, 16};
    private static final int[] OTHER_LENGTH = {55, 111, 32, 64, 16, 32, 16, 32};

    private final BitWell well = new BitWell();
    private final Oracle oracle = new Oracle();

    public static void main(String[] args) {
        for (int kind = 0; kind < 8; kind++) {
            strengthsAreRounded(kind);
            openTakesBytes(kind);
            for (int tape : new int[] {0, 1, 31, 32}) {
                statesAndBytes(kind, tape);
            }
            if (kind < 6) {
                statesAndBytes(kind, 240);
            }
            longDrawings(kind);
            intervals(kind);
            resistance(kind);
            tapesThatAreTooLong(kind);
            emptySupply(kind);
            looks(kind);
        }
        openRefuses();
        orderOfOpensRefusals();
        leastFreeNumber();
        closing();
        drawRefuses();
        orderOfDrawsRefusals();
        orderOfReseedsRefusals();
        generatorsAreApart();
        generatorsTakeTurns();
        countersGoBeyond(6);
        countersGoBeyond(7);
        intervalOfManyDrawings();
        Check.finish();
    }

    private void fill(int n) {
        Check.supply(well, Check.bytes(n, 11));
        byte[] bytes = Check.bytes(n, 11);
        for (int from = 0; from < n; from += 240) {
            oracleTape(Arrays.copyOfRange(bytes, from, Math.min(n, from + 240)));
            oracle.supply();
        }
    }

    private void oracleTape(byte[] bytes) {
        oracle.end(0);
        byte[] padded = Arrays.copyOf(bytes, (bytes.length + 19) / 20 * 20);
        ByteBuffer numbers = ByteBuffer.wrap(padded);
        while (numbers.hasRemaining()) {
            oracle.feed(numbers.getInt(), numbers.getInt(), numbers.getInt(), numbers.getInt(), numbers.getInt());
        }
        oracle.end(bytes.length);
    }

    private void tape(int n, int first) {
        Check.tape(well, Check.bytes(n, first));
        oracleTape(Check.bytes(n, first));
    }

    private void open(int kind, int strength, boolean resists, int interval) {
        Check.same("open(" + kind + ", " + strength + ")", oracle.open(kind, strength, resists, interval),
                well.open(kind, strength, resists, interval));
    }

    private void reseed(boolean resistance) {
        Check.same("reseed", oracle.reseed(0, resistance), well.reseed(0, resistance));
    }

    private void draw(int n, boolean resistance) {
        Check.same("draw", oracle.draw(0, n, 0, resistance), well.draw(0, n, 0, resistance));
        Check.same("size()", oracle.size(), well.size());
        int step = n > 200 ? 97 : 1;
        for (int k = 0; k <= n; k += step) {
            Check.same("drawn(" + k + ")", oracle.drawn(k), well.drawn(k));
        }
        Check.same("the tape is empty", NONE, well.end(1));
    }

    private void look(int kind) {
        for (int k = -1; k <= V_LENGTH[kind]; k += 3) {
            Check.same("V of kind " + kind, oracle.state(0, 0, k), well.state(0, 0, k));
        }
        for (int k = -1; k <= OTHER_LENGTH[kind]; k += 5) {
            Check.same("C or K of kind " + kind, oracle.state(0, 1, k), well.state(0, 1, k));
        }
        for (int what : new int[] {2, 6, 7}) {
            Check.same("generator(0, " + what + ")", oracle.generator(0, what), well.generator(0, what));
        }
        Check.same("bytes that wait", oracle.source(0), well.source(0));
    }

    private static BitWell filled(int n) {
        BitWell well = new BitWell();
        Check.supply(well, Check.bytes(n, 11));
        return well;
    }

    private static int most(int kind) {
        return kind == 4 || kind == 6 ? 128 : 256;
    }

    private static void strengthsAreRounded(int kind) {
        int[][] rounded = {{1, 112}, {111, 112}, {112, 112}, {113, 128}, {128, 128}, {129, 192}, {192, 192},
            {193, 256}, {256, 256}};
        for (int[] one : rounded) {
            BitWell well = filled(60);
            boolean fits = one[0] <= most(kind);
            Check.same("open(" + kind + ", " + one[0] + ")", fits ? 0 : -3, well.open(kind, one[0], false, 1));
            Check.same("STRENGTH", fits ? one[1] : NONE, well.generator(0, 1));
        }
        BitWell well = filled(60);
        for (int strength : new int[] {0, -1, Integer.MIN_VALUE, most(kind) + 1, 257, Integer.MAX_VALUE}) {
            Check.same("open(" + kind + ", " + strength + ")", -3, well.open(kind, strength, false, 1));
        }
        Check.same("nothing was taken", 60, well.source(0));
    }

    private static void openTakesBytes(int kind) {
        for (int strength : new int[] {112, 128, 192, 256}) {
            if (strength > most(kind)) {
                continue;
            }
            int wanted = kind >= 6 ? SEED[kind] : strength / 8 + strength / 16;
            BitWell well = filled(wanted - 1);
            Check.tape(well, "0102");
            Check.same("open with a byte too few", -6, well.open(kind, strength, false, 1));
            Check.same("nothing was taken", wanted - 1, well.source(0));
            Check.same("the tape stays", 2, well.end(2));
            Check.same("supply()", wanted + 1, well.supply());
            Check.tape(well, "0102");
            Check.same("open", 0, well.open(kind, strength, false, 1));
            Check.same("bytes that wait", 1, well.source(0));
            Check.same("bytes that were taken", wanted, well.source(6));
            Check.same("the tape is empty", NONE, well.end(1));
        }
    }

    private static void statesAndBytes(int kind, int tape) {
        GeneratorsTest one = new GeneratorsTest();
        one.fill(200);
        one.tape(tape, 40);
        one.open(kind, most(kind), true, 3);
        one.look(kind);
        one.tape(tape, 80);
        one.draw(9, false);
        one.look(kind);
        one.tape(tape, 120);
        one.reseed(false);
        one.look(kind);
        one = new GeneratorsTest();
        one.fill(200);
        one.tape(tape, 160);
        one.open(kind, 112, true, 3);
        one.tape(tape, 200);
        one.draw(5, true);
        one.look(kind);
        one.draw(7, false);
        one.look(kind);
    }

    private static void longDrawings(int kind) {
        for (int n : new int[] {0, 1, 15, 16, 17, 31, 32, 33, 63, 64, 65, 128, 4095, 4096}) {
            GeneratorsTest one = new GeneratorsTest();
            one.fill(60);
            one.open(kind, 128, false, 9);
            one.draw(n, false);
            Check.same("bytes drawn in all", n, one.well.generator(0, 6));
            one.look(kind);
            one.draw(3, false);
            one.look(kind);
        }
    }

    private static void intervals(int kind) {
        GeneratorsTest one = new GeneratorsTest();
        one.fill(240);
        one.open(kind, 128, false, 2);
        int taken = one.well.source(6);
        for (int count = 2; count <= 3; count++) {
            one.tape(2, count);
            one.draw(4, false);
            Check.same("COUNT", count, one.well.generator(0, 2));
            Check.same("SEEDINGS", 1, one.well.generator(0, 7));
        }
        Check.same("no bytes were taken", taken, one.well.source(6));
        one.tape(2, 77);
        one.draw(4, false);
        Check.same("COUNT behind a seeding of its own", 2, one.well.generator(0, 2));
        Check.same("SEEDINGS", 2, one.well.generator(0, 7));
        Check.same("bytes that were taken", taken + (kind >= 6 ? SEED[kind] : 16), one.well.source(6));
        one.look(kind);
        one.reseed(false);
        Check.same("COUNT behind reseed", 1, one.well.generator(0, 2));
        Check.same("SEEDINGS", 3, one.well.generator(0, 7));
        one.look(kind);
    }

    private static void resistance(int kind) {
        GeneratorsTest one = new GeneratorsTest();
        one.fill(240);
        one.open(kind, 128, true, 100000);
        one.tape(3, 5);
        one.draw(20, true);
        Check.same("SEEDINGS", 2, one.well.generator(0, 7));
        Check.same("COUNT", 2, one.well.generator(0, 2));
        one.look(kind);
        one.tape(3, 6);
        one.reseed(true);
        Check.same("SEEDINGS", 3, one.well.generator(0, 7));
        one.look(kind);
        BitWell well = filled(240);
        well.open(kind, 128, false, 1);
        Check.tape(well, "0102");
        int waiting = well.source(0);
        Check.same("reseed with resistance", 5, well.reseed(0, true));
        Check.same("draw with resistance", 5, well.draw(0, 1, 0, true));
        Check.same("nothing was taken", waiting, well.source(0));
        Check.same("SEEDINGS", 1, well.generator(0, 7));
        Check.same("COUNT", 1, well.generator(0, 2));
        Check.same("the tape stays", 2, well.end(2));
    }

    private static void tapesThatAreTooLong(int kind) {
        boolean bound = kind >= 6;
        BitWell well = filled(240);
        Check.tape(well, Check.bytes(SEED[kind] + 1, 3));
        Check.same("open with a long tape", bound ? -4 : 0, well.open(kind, 128, true, 1));
        Check.same("the tape", bound ? SEED[kind] : NONE, well.end(SEED[kind]));
        Check.same("open", bound ? 0 : 1, well.open(kind, 128, true, 1));
        Check.tape(well, Check.bytes(SEED[kind] + 1, 4));
        String v = Check.state(well, 0, 0);
        Check.same("draw with a long tape", bound ? 4 : 0, well.draw(0, 1, 0, false));
        Check.same("the state is as it was", bound, v.equals(Check.state(well, 0, 0)));
        Check.tape(well, Check.bytes(SEED[kind] + 1, 4));
        Check.same("draw anew with a long tape", bound ? 4 : 0, well.draw(0, 1, 0, true));
        Check.tape(well, Check.bytes(SEED[kind] + 1, 4));
        Check.same("reseed with a long tape", bound ? 4 : 0, well.reseed(0, false));
        Check.tape(well, Check.bytes(SEED[kind], 5));
        Check.same("reseed with a tape of SEED", 0, well.reseed(0, false));
        Check.tape(well, Check.bytes(SEED[kind], 6));
        Check.same("draw with a tape of SEED", 0, well.draw(0, 1, 0, false));
    }

    private static void emptySupply(int kind) {
        int fresh = kind >= 6 ? SEED[kind] : 16;
        int first = kind >= 6 ? SEED[kind] : 24;
        BitWell well = filled(first + fresh - 1);
        Check.same("open", 0, well.open(kind, 128, true, 1));
        Check.same("draw", 0, well.draw(0, 6, 0, false));
        String drawn = Check.drawn(well);
        String v = Check.state(well, 0, 0);
        Check.tape(well, "0102");
        Check.same("draw beyond the interval", 6, well.draw(0, 7, 0, false));
        Check.same("draw with resistance", 6, well.draw(0, 7, 0, true));
        Check.same("reseed", 6, well.reseed(0, false));
        Check.same("the tape stays", 2, well.end(2));
        Check.same("what was drawn stays", drawn, Check.drawn(well));
        Check.same("the state stays", v, Check.state(well, 0, 0));
        Check.same("COUNT stays", 2, well.generator(0, 2));
        Check.same("nothing was taken", fresh - 1, well.source(0));
        Check.tape(well, "09");
        Check.same("supply()", fresh, well.supply());
        Check.same("draw with just so many", 0, well.draw(0, 7, 0, false));
        Check.same("nothing waits", 0, well.source(0));
    }

    private static void looks(int kind) {
        for (boolean resists : new boolean[] {false, true}) {
            BitWell well = filled(100);
            Check.same("open", 0, well.open(kind, 120, resists, 100000));
            int[] want = {kind, 128, 1, 100000, resists ? 1 : 0, SEED[kind], 0, 1};
            for (int what = 0; what < 8; what++) {
                Check.same("generator(0, " + what + ")", want[what], well.generator(0, what));
            }
            for (int what : new int[] {-1, 8, Integer.MIN_VALUE, Integer.MAX_VALUE}) {
                Check.same("generator(0, " + what + ")", NONE, well.generator(0, what));
            }
            Check.same("length of V", 2 * V_LENGTH[kind], Check.state(well, 0, 0).length());
            Check.same("length of C or K", 2 * OTHER_LENGTH[kind], Check.state(well, 0, 1).length());
            for (int k : new int[] {-1, 111, Integer.MIN_VALUE, Integer.MAX_VALUE}) {
                Check.same("state(0, 0, " + k + ")", NONE, well.state(0, 0, k));
                Check.same("state(0, 1, " + k + ")", NONE, well.state(0, 1, k));
            }
            for (int part : new int[] {-1, 2, Integer.MIN_VALUE, Integer.MAX_VALUE}) {
                Check.same("state(0, " + part + ", 0)", NONE, well.state(0, part, 0));
            }
            for (int g : new int[] {-1, 1, 3, 4, Integer.MIN_VALUE, Integer.MAX_VALUE}) {
                Check.same("generator(" + g + ", 0)", NONE, well.generator(g, 0));
                Check.same("state(" + g + ", 0, 0)", NONE, well.state(g, 0, 0));
            }
            well.draw(0, 10, 0, false);
            well.draw(0, 20, 0, false);
            Check.same("bytes drawn in all", 30, well.generator(0, 6));
        }
    }

    private static void openRefuses() {
        BitWell well = filled(240);
        Check.tape(well, "01");
        for (int kind : new int[] {-1, 8, Integer.MIN_VALUE, Integer.MAX_VALUE}) {
            Check.same("open(" + kind + ")", -7, well.open(kind, 112, false, 1));
        }
        for (int interval : new int[] {0, -1, 100001, Integer.MIN_VALUE, Integer.MAX_VALUE}) {
            Check.same("open with interval " + interval, -7, well.open(0, 112, false, interval));
        }
        Check.same("the tape stays", 1, well.end(1));
        Check.same("nothing was taken", 240, well.source(0));
        Check.same("the least interval", 0, well.open(0, 112, false, 1));
        Check.same("the greatest interval", 1, well.open(0, 112, false, 100000));
        Check.same("INTERVAL", 100000, well.generator(1, 3));
    }

    private static void orderOfOpensRefusals() {
        BitWell well = filled(31);
        Check.tape(well, Check.bytes(40, 1));
        Check.same("a wrong kind and strength", -7, well.open(8, 0, false, 1));
        Check.same("a wrong strength, a long tape", -3, well.open(6, 129, false, 1));
        Check.same("a long tape, too few bytes", -4, well.open(6, 128, false, 1));
        well.end(32);
        Check.same("too few bytes", -6, well.open(6, 128, false, 1));
        well = filled(100);
        for (int g = 0; g < 4; g++) {
            Check.same("open", g, well.open(0, 112, false, 1));
        }
        Check.tape(well, Check.bytes(40, 1));
        Check.same("a wrong kind, four are open", -7, well.open(8, 112, false, 1));
        Check.same("a wrong interval, four are open", -7, well.open(0, 112, false, 0));
        Check.same("four are open, a wrong strength", -8, well.open(0, 0, false, 1));
        Check.same("four are open, a long tape, too few bytes", -8, well.open(6, 128, false, 1));
    }

    private static void leastFreeNumber() {
        BitWell well = filled(240);
        for (int g = 0; g < 4; g++) {
            Check.same("open", g, well.open(g, 112, false, 1));
        }
        Check.same("open a fifth one", -8, well.open(0, 112, false, 1));
        Check.same("close(2)", true, well.close(2));
        Check.same("close(1)", true, well.close(1));
        Check.same("open the least", 1, well.open(4, 112, false, 1));
        Check.same("its kind", 4, well.generator(1, 0));
        Check.same("open the next", 2, well.open(5, 112, false, 1));
        Check.same("open a fifth one", -8, well.open(0, 112, false, 1));
    }

    private static void closing() {
        BitWell well = filled(240);
        for (int g : new int[] {-1, 0, 1, 4, Integer.MIN_VALUE, Integer.MAX_VALUE}) {
            Check.same("close(" + g + ")", false, well.close(g));
        }
        Check.same("open", 0, well.open(2, 112, true, 1));
        Check.same("draw", 0, well.draw(0, 5, 0, false));
        String drawn = Check.drawn(well);
        Check.tape(well, "0102");
        Check.same("close(0)", true, well.close(0));
        Check.same("close(0) again", false, well.close(0));
        Check.same("the tape stays", 2, well.end(2));
        Check.same("what was drawn stays", drawn, Check.drawn(well));
        Check.same("draw of a closed one", 1, well.draw(0, 5, 0, false));
        Check.same("reseed of a closed one", 1, well.reseed(0, false));
        Check.same("generator(0, 0)", NONE, well.generator(0, 0));
        Check.same("state(0, 0, 0)", NONE, well.state(0, 0, 0));
        Check.same("open again", 0, well.open(3, 112, true, 1));
        Check.same("COUNT of a new one", 1, well.generator(0, 2));
        Check.same("bytes drawn of a new one", 0, well.generator(0, 6));
        Check.same("SEEDINGS of a new one", 1, well.generator(0, 7));
    }

    private static void drawRefuses() {
        BitWell well = filled(240);
        Check.same("open", 0, well.open(0, 128, false, 9));
        Check.tape(well, "01");
        for (int g : new int[] {-1, 1, 4, Integer.MIN_VALUE, Integer.MAX_VALUE}) {
            Check.same("draw(" + g + ")", 1, well.draw(g, 5, 0, false));
            Check.same("reseed(" + g + ")", 1, well.reseed(g, false));
        }
        for (int n : new int[] {-1, 4097, Integer.MIN_VALUE, Integer.MAX_VALUE}) {
            Check.same("draw of " + n, 2, well.draw(0, n, 0, false));
        }
        for (int strength : new int[] {129, 256, 257, Integer.MAX_VALUE}) {
            Check.same("draw of strength " + strength, 3, well.draw(0, 5, strength, false));
        }
        Check.same("the tape stays", 1, well.end(1));
        Check.same("nothing is drawn", 0, well.size());
        Check.same("COUNT stays", 1, well.generator(0, 2));
        for (int strength : new int[] {128, 127, 1, 0, -1, Integer.MIN_VALUE}) {
            Check.same("draw of strength " + strength, 0, well.draw(0, 5, strength, false));
        }
        Check.same("draw of nothing", 0, well.draw(0, 0, 0, false));
        Check.same("nothing stands in its place", 0, well.size());
        Check.same("COUNT goes on", 8, well.generator(0, 2));
    }

    private static void orderOfDrawsRefusals() {
        BitWell well = filled(32);
        Check.same("open", 0, well.open(6, 128, false, 1));
        Check.tape(well, Check.bytes(33, 1));
        Check.same("no generator, wrong length", 1, well.draw(1, -1, 129, true));
        Check.same("wrong length, wrong strength", 2, well.draw(0, -1, 129, true));
        Check.same("wrong strength, long tape", 3, well.draw(0, 5, 129, true));
        Check.same("long tape, no resistance", 4, well.draw(0, 5, 128, true));
        well.end(32);
        Check.same("no resistance, no bytes", 5, well.draw(0, 5, 128, true));
        Check.same("a drawing that needs no bytes", 0, well.draw(0, 5, 128, false));
        Check.tape(well, Check.bytes(33, 1));
        Check.same("long tape, no bytes", 4, well.draw(0, 5, 128, false));
        well.end(32);
        Check.same("no resistance, no bytes", 5, well.draw(0, 5, 128, true));
        Check.same("no bytes", 6, well.draw(0, 5, 128, false));
    }

    private static void orderOfReseedsRefusals() {
        BitWell well = filled(48);
        Check.same("open", 0, well.open(7, 256, false, 1));
        Check.tape(well, Check.bytes(49, 1));
        Check.same("no generator, long tape", 1, well.reseed(1, true));
        Check.same("long tape, no resistance", 4, well.reseed(0, true));
        well.end(48);
        Check.same("no resistance, no bytes", 5, well.reseed(0, true));
        Check.same("no bytes", 6, well.reseed(0, false));
        Check.same("the tape stays", 48, well.end(48));
    }

    private static void generatorsAreApart() {
        BitWell well = filled(240);
        for (int g = 0; g < 4; g++) {
            Check.same("open", g, well.open(2 * g, 112, false, 5));
        }
        String[] v = new String[4];
        for (int g = 1; g < 4; g++) {
            v[g] = Check.state(well, g, 0).substring(0, 8);
        }
        well.draw(0, 10, 0, false);
        well.reseed(0, false);
        for (int g = 1; g < 4; g++) {
            Check.same("V of another", v[g], Check.state(well, g, 0).substring(0, 8));
            Check.same("COUNT of another", 1, well.generator(g, 2));
            Check.same("bytes of another", 0, well.generator(g, 6));
        }
    }

    /** What one generator leaves behind in its work must not reach the next one. */
    private static void generatorsTakeTurns() {
        for (int first = 0; first < 8; first++) {
            for (int second = 0; second < 8; second++) {
                GeneratorsTest one = new GeneratorsTest();
                one.fill(240);
                one.tape(30, first);
                one.open(first, 128, false, 1);
                one.tape(31, second);
                one.open(second, 128, false, 1);
                for (int k = 0; k < 4; k++) {
                    int g = k & 1;
                    one.tape(k, 50 + k);
                    Check.same("draw", one.oracle.draw(g, 20, 0, false), one.well.draw(g, 20, 0, false));
                    for (int at = 0; at < 20; at++) {
                        Check.same("kinds " + first + " and " + second, one.oracle.drawn(at), one.well.drawn(at));
                    }
                }
            }
        }
    }

    /** The fresh bytes are chosen so that V is all FF, or nearly so: its sums are cut. */
    private static void countersGoBeyond(int kind) {
        for (String v : new String[] {"ff".repeat(16), "00" + "ff".repeat(15), "ff".repeat(15) + "fe"}) {
            byte[] stream = {};
            int keyLength = OTHER_LENGTH[kind];
            for (int k = 1; 16 * k <= SEED[kind]; k++) {
                stream = Oracle.join(stream, Oracle.encrypt(new byte[keyLength], Oracle.number(k, 16)));
            }
            byte[] wanted = Oracle.join(Check.bytes(keyLength, 1), HexFormat.of().parseHex(v));
            GeneratorsTest one = new GeneratorsTest();
            Check.supply(one.well, Oracle.xor(stream, wanted));
            one.oracleTape(Oracle.xor(stream, wanted));
            one.oracle.supply();
            one.open(kind, 128, false, 9);
            Check.same("V", v, Check.state(one.well, 0, 0));
            one.draw(50, false);
            one.look(kind);
        }
    }

    private static void intervalOfManyDrawings() {
        GeneratorsTest one = new GeneratorsTest();
        one.fill(60);
        one.open(0, 128, false, 100000);
        // COUNT needs more than one byte then, and is a summand of V.
        for (int k = 0; k < 300; k++) {
            one.oracle.draw(0, 1, 0, false);
            one.well.draw(0, 1, 0, false);
        }
        one.look(0);
    }
}
