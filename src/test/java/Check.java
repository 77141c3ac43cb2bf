import java.util.ArrayList;
import java.util.Arrays;
import java.util.HexFormat;
import java.util.List;

/** Counts what was checked, prints what is not as it should be, and ends the program with 1 then. */
final class Check {
    private static final HexFormat HEX = HexFormat.of();
    private static int checked = 0;
    private static int wrong = 0;
    private static String place = "";

    private Check() {
    }

    static void same(String what, long want, long got) {
        checked++;
        if (want != got) {
            fail(what + " answered " + got + ", due is " + want);
        }
    }

    static void same(String what, boolean want, boolean got) {
        same(what, want ? 1 : 0, got ? 1 : 0);
    }

    static void same(String what, String want, String got) {
        checked++;
        if (!want.equals(got)) {
            fail(what + " answered " + got + ", due is " + want);
        }
    }

    static void isTrue(String what, boolean holds) {
        same(what, true, holds);
    }

    static void fail(String text) {
        wrong++;
        System.out.println(place + text);
    }

    /** What is checked from here on is told with this name ahead of it. */
    static void begin(String name) {
        place = name + ": ";
    }

    static int checked() {
        return checked;
    }

    static void finish() {
        System.out.println(checked + " checked, " + wrong + " wrong");
        if (wrong != 0 || checked == 0) {
            System.exit(1);
        }
    }

    /** The tape is made anew and has just these bytes. */
    static void tape(BitWell well, byte[] bytes) {
        well.end(0);
        for (int from = 0; from < bytes.length; from += 20) {
            well.feed(number(bytes, from), number(bytes, from + 4), number(bytes, from + 8),
                    number(bytes, from + 12), number(bytes, from + 16));
        }
        same("end(" + bytes.length + ")", bytes.length, well.end(bytes.length));
    }

    static void tape(BitWell well, String hex) {
        tape(well, HEX.parseHex(hex));
    }

    private static int number(byte[] bytes, int from) {
        int number = 0;
        for (int k = from; k < from + 4; k++) {
            number = number << 8 | (k < bytes.length ? bytes[k] & 0xFF : 0);
        }
        return number;
    }

    /** The supply gets just these bytes behind those that wait. */
    static void supply(BitWell well, byte[] bytes) {
        int before = well.source(0);
        for (int from = 0; from < bytes.length; from += 240) {
            int to = Math.min(bytes.length, from + 240);
            tape(well, Arrays.copyOfRange(bytes, from, to));
            same("supply()", before + to, well.supply());
        }
    }

    static void supply(BitWell well, String hex) {
        supply(well, HEX.parseHex(hex));
    }

    /** Bytes that differ from their neighbours, and differ by where they begin: they pass every test of the supply. */
    static byte[] bytes(int n, int first) {
        byte[] bytes = new byte[n];
        for (int k = 0; k < n; k++) {
            bytes[k] = (byte) (first + 7 * k + k / 256);
        }
        return bytes;
    }

    static String hex(byte[] bytes) {
        return HEX.formatHex(bytes);
    }

    static String drawn(BitWell well) {
        List<Integer> bytes = new ArrayList<>();
        int size = well.size();
        for (int k = 0; k < size; k++) {
            bytes.add(well.drawn(k));
        }
        return hex(bytes);
    }

    /** Part 0 or 1 of a generator's state, as far as it goes. */
    static String state(BitWell well, int g, int part) {
        List<Integer> bytes = new ArrayList<>();
        for (int b = well.state(g, part, 0); b != BitWell.NONE && bytes.size() < 200; ) {
            bytes.add(b);
            b = well.state(g, part, bytes.size());
        }
        return hex(bytes);
    }

    private static String hex(List<Integer> bytes) {
        StringBuilder text = new StringBuilder();
        for (int b : bytes) {
            text.append(b >= 0 && b < 256 ? HEX.toHexDigits((byte) b) : "?" + b);
        }
        return text.toString();
    }
}
