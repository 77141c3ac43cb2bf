import com.sun.management.ThreadMXBean;
import java.lang.management.ManagementFactory;

/** All calls of a run live in one room: what an object and its dearest calls make stays far below it. */
public final class RoomTest {
    // An int takes four bytes: a tenth of the room's 7.3 million elements.
    private static final long BYTES_MOST = 4 * 730_000;
    // Together with the calls that fill the supply these are at most 512 on one object.
    private static final int PAIRS = 215;
    private static final int THREES = 140;

    private RoomTest() {
    }

    public static void main(String[] args) {
        for (int kind = 0; kind < 8; kind++) {
            drawings(kind);
        }
        openings();
        pieces();
        Check.finish();
    }

    private static long made() {
        return ((ThreadMXBean) ManagementFactory.getThreadMXBean()).getCurrentThreadAllocatedBytes();
    }

    private static void fits(String what, long before) {
        long bytes = made() - before;
        Check.isTrue(what + " made " + bytes + " bytes", bytes <= BYTES_MOST);
    }

    private static BitWell filled() {
        BitWell well = new BitWell();
        Check.supply(well, Check.bytes(960, 1));
        return well;
    }

    private static void drawings(int kind) {
        long before = made();
        BitWell well = filled();
        Check.same("open", 0, well.open(kind, 128, true, 100000));
        int done = 0;
        for (int k = 0; k < PAIRS; k++) {
            well.feed(k, k, k, k, k);
            done += well.draw(0, 4096, 0, k < 15) == 0 ? 1 : 0;
        }
        Check.same("drawings", PAIRS, done);
        fits("kind " + kind, before);
    }

    private static void openings() {
        long before = made();
        BitWell well = filled();
        for (int k = 0; k < PAIRS; k++) {
            well.open(1, 256, true, 1);
            well.close(0);
        }
        fits("open", before);
    }

    private static void pieces() {
        long before = made();
        BitWell well = filled();
        Check.tape(well, Check.bytes(240, 1));
        for (int k = 0; k < THREES; k++) {
            well.digest(true);
            well.mac(true);
            well.derive(k & 3, 200);
        }
        fits("pieces", before);
    }
}
