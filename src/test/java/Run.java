import java.util.ArrayList;
import java.util.Arrays;
import java.util.HexFormat;
import java.util.List;
import java.util.function.Function;

/**
 * A run of calls on a new object. It can be made again as often as one likes, so all that an object holds can be
 * looked at, even what is told only by calls that change it, and no object is ever asked more than 512 times.
 */
final class Run {
    static final int NONE = BitWell.NONE;

    private static final int CALLS_MOST = 512;

    private final List<Function<BitWell, Object>> calls = new ArrayList<>();

    Run then(Function<BitWell, Object> call) {
        Run longer = new Run();
        longer.calls.addAll(calls);
        longer.calls.add(call);
        if (longer.calls.size() > CALLS_MOST) {
            Check.fail("more calls than the document allows");
        }
        return longer;
    }

    /** The tape is made anew and has just these bytes. */
    Run tape(byte[] bytes) {
        Run run = then(well -> well.end(0));
        for (int from = 0; from < bytes.length; from += 20) {
            int at = from;
            run = run.then(well -> well.feed(number(bytes, at), number(bytes, at + 4), number(bytes, at + 8),
                    number(bytes, at + 12), number(bytes, at + 16)));
        }
        return run.then(well -> well.end(bytes.length));
    }

    private static int number(byte[] bytes, int from) {
        int number = 0;
        for (int k = from; k < from + 4; k++) {
            number = number << 8 | (k < bytes.length ? bytes[k] & 0xFF : 0);
        }
        return number;
    }

    Run tape(String hex) {
        return tape(HexFormat.of().parseHex(hex));
    }

    Run tape(int n) {
        return tape(Check.bytes(n, 40));
    }

    /** These bytes go through the tape to the supply, whatever it says to them. */
    Run supply(byte[] bytes) {
        Run run = this;
        for (int from = 0; from < bytes.length; from += 240) {
            byte[] part = Arrays.copyOfRange(bytes, from, Math.min(bytes.length, from + 240));
            run = run.tape(part).then(BitWell::supply);
        }
        return run;
    }

    Run supply(String hex) {
        return supply(HexFormat.of().parseHex(hex));
    }

    /** So many bytes wait, if none did. */
    Run waiting(int n) {
        return supply(Check.bytes(n, 11));
    }

    BitWell made() {
        BitWell well = new BitWell();
        for (Function<BitWell, Object> call : calls) {
            call.apply(well);
        }
        return well;
    }

    Run answers(Object want, String name, Function<BitWell, Object> call) {
        Check.same(name, String.valueOf(want), String.valueOf(call.apply(made())));
        return then(call);
    }

    /** The call is answered so, and all is behind it as it was ahead of it. */
    void refuses(Object want, String name, Function<BitWell, Object> call) {
        Run behind = answers(want, name, call);
        sameAs(behind, name + " changed");
    }

    void sameAs(Run other, String what) {
        same(what, picture(), other.picture());
    }

    /** Both have it all alike, whatever is drawn. */
    void sameButForDrawn(Run other, String what) {
        List<String> here = picture();
        List<String> there = other.picture();
        here.removeIf(Run::tellsDrawn);
        there.removeIf(Run::tellsDrawn);
        same(what, here, there);
    }

    private static boolean tellsDrawn(String line) {
        return line.startsWith("drawn: ");
    }

    private static void same(String what, List<String> here, List<String> there) {
        Check.same(what + " lines", here.size(), there.size());
        for (int k = 0; k < Math.min(here.size(), there.size()); k++) {
            Check.same(what, here.get(k), there.get(k));
        }
    }

    /** What source tells from 0 on. */
    Run source(int... want) {
        BitWell well = made();
        for (int what = 0; what < want.length; what++) {
            Check.same("source(" + what + ")", want[what], well.source(what));
        }
        return this;
    }

    Run generator(int g, int what, int want) {
        Check.same("generator(" + g + ", " + what + ")", want, made().generator(g, what));
        return this;
    }

    Run size(int want) {
        Check.same("size()", want, made().size());
        return this;
    }

    Run drawnIs(String what, byte[] want) {
        Check.same(what, Check.hex(want), Check.hex(drawn()));
        return this;
    }

    Run stateIs(String what, int g, int part, byte[] want) {
        Check.same(what, Check.hex(want), Check.hex(state(g, part)));
        return this;
    }

    /** The tape has just these bytes. */
    Run tapeIs(byte[] want) {
        Check.same("the tape", tapeText(want.length, Oracle.hash(true, want)), tapeText());
        return this;
    }

    byte[] drawn() {
        return bytes(made().size(), (well, k) -> well.drawn(k));
    }

    byte[] state(int g, int part) {
        Looks looks = new Looks();
        int n = 0;
        while (n < 200 && looks.next().state(g, part, n) != NONE) {
            n++;
        }
        return bytes(n, (well, k) -> well.state(g, part, k));
    }

    private interface Look {
        int at(BitWell well, int k);
    }

    private byte[] bytes(int n, Look look) {
        byte[] bytes = new byte[n];
        Looks looks = new Looks();
        for (int k = 0; k < n; k++) {
            int b = look.at(looks.next(), k);
            if (b < 0 || b > 255) {
                Check.fail("byte " + k + " of " + n + " is " + b);
            }
            bytes[k] = (byte) b;
        }
        return bytes;
    }

    /** Hands out the object behind the run for one look, a new one whenever its calls are used up. */
    private final class Looks {
        private BitWell well = null;
        private int left = 0;

        BitWell next() {
            if (left <= 0) {
                well = made();
                left = CALLS_MOST - calls.size();
            }
            left--;
            return well;
        }
    }

    /** All that can be seen, and what some calls would answer that come behind the run. */
    List<String> picture() {
        List<String> lines = new ArrayList<>();
        lines.add("the tape: " + tapeText());
        lines.add("drawn: " + made().size() + " " + Check.hex(drawn()));
        lines.add("the supply: " + sourceText(made()));
        for (int g = 0; g < 4; g++) {
            lines.add("generator " + g + ": " + generatorText(g));
            lines.add("V of " + g + ": " + Check.hex(state(g, 0)));
            lines.add("C or K of " + g + ": " + Check.hex(state(g, 1)));
        }
        lines.add("bytes that wait: " + waitingText());
        lines.add("REPEATS: " + sourceText(then(well -> well.end(0)).supply("ee".repeat(60)).made()));
        lines.add("PART: " + partText());
        lines.add("WINDOW: " + windowText());
        return lines;
    }

    private static String tapeText(int n, byte[] digest) {
        return n + " bytes, " + Check.hex(digest);
    }

    private String tapeText() {
        Looks looks = new Looks();
        int n = 240;
        while (n > 0 && looks.next().end(n) == NONE) {
            n--;
        }
        return tapeText(n, then(well -> well.digest(true)).drawn());
    }

    private static String sourceText(BitWell well) {
        StringBuilder text = new StringBuilder();
        for (int what = 0; what < 8; what++) {
            text.append(' ').append(well.source(what));
        }
        return text.toString();
    }

    private String generatorText(int g) {
        BitWell well = made();
        StringBuilder text = new StringBuilder();
        for (int what = 0; what < 8; what++) {
            text.append(' ').append(well.generator(g, what));
        }
        return text.toString();
    }

    /** A generator of kind 7 takes all bytes, the last ones with some more behind them: its state tells of each. */
    private String waitingText() {
        Run taker = then(well -> well.end(0)).then(well -> well.close(3));
        if (made().source(0) < 48) {
            taker = taker.waiting(48);
        }
        int g = taker.made().open(7, 256, false, 100000);
        taker = taker.then(well -> well.open(7, 256, false, 100000));
        for (int k = 0; k < 20; k++) {
            taker = taker.then(well -> well.reseed(g, false));
        }
        taker = taker.waiting(48).then(well -> well.reseed(g, false));
        return g + " " + Check.hex(taker.state(g, 0)) + " " + Check.hex(taker.state(g, 1));
    }

    /** The sample, or a byte that becomes it, comes so often that PART is met, in turn with another. */
    private String partText() {
        int sample = made().source(3);
        byte[] row = new byte[200];
        for (int k = 0; k < row.length; k++) {
            row[k] = (byte) ((sample == NONE ? 0xEE : sample) ^ k & 1);
        }
        return sourceText(supply(row).made());
    }

    private String windowText() {
        StringBuilder text = new StringBuilder();
        Run run = this;
        for (int k = 0; k < 4; k++) {
            run = run.supply(Check.bytes(240, k));
            text.append(sourceText(run.made()));
        }
        return text.toString();
    }
}
