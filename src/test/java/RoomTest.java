import com.sun.management.ThreadMXBean;
import java.lang.management.ManagementFactory;

/** A new desk is small, and no call of a desk makes objects. */
public final class RoomTest {
    private static final ThreadMXBean MEASURE = (ThreadMXBean) ManagementFactory.getThreadMXBean();
    private static final int CALLS = 512;
    /** 7.3 million elements of four bytes, for as many desks as a run has calls. */
    private static final long BYTES_OF_DESK = 7_300_000L * 4 / CALLS;

    private final Due due = new Due();

    public static void main(String[] args) {
        RoomTest test = new RoomTest();
        test.newDesks();
        test.calls();
        test.due.finish();
    }

    private static long made() {
        return MEASURE.getThreadAllocatedBytes(Thread.currentThread().getId());
    }

    private void newDesks() {
        StitchDesk[] desks = new StitchDesk[CALLS];
        long before = made();
        for (int i = 0; i < CALLS; i++) {
            desks[i] = new StitchDesk();
        }
        long bytes = (made() - before) / CALLS;
        due.isTrue("a desk of " + bytes + " bytes is one of at most " + BYTES_OF_DESK, bytes <= BYTES_OF_DESK);
    }

    private void calls() {
        StitchDesk desk = new StitchDesk();
        int[] outside = Told.box(0, 0, 590, 590);
        int[] hole = Told.box(100, 100, 480, 480);
        int[] wave = new int[32];
        int[] bow = {0, 0, 40, 40, 40, 0, 0, 40};
        for (int i = 0; i < 16; i++) {
            wave[2 * i] = i % 2 * 600;
        }
        askAll(desk, outside, hole, wave, bow);
        long before = made();
        for (int i = 0; i < 9; i++) {
            askAll(desk, outside, hole, wave, bow);
        }
        long bytes = made() - before;
        // Told's rows of arguments are counted too, and no more than those.
        due.isTrue("calls that make " + bytes + " bytes make none of their own", bytes < 5_000);
        due.is("ten shapes", desk.count(0), 10);
    }

    private void askAll(StitchDesk desk, int[] outside, int[] hole, int[] wave, int[] bow) {
        if (desk.count(0) % 2 == 0) {
            Told.hatch(desk, desk.count(0) % 3, 4, desk.count(0) % 4, outside, hole);
        } else {
            Told.satin(desk, desk.count(0) % 3, 20, wave, wave);
        }
        if (desk.count(0) < 10) {
            Told.outline(desk, 0, bow);
        }
        desk.reorder();
        desk.stitch();
        for (int i = 0; i < 30; i++) {
            desk.load(i, 0);
        }
        desk.thread(0);
        desk.hoop(5, 5);
        desk.under(50, 50);
        desk.stop(0);
        desk.decode();
        desk.byteAt(29);
        desk.record(9, 2);
        desk.needle(10, 1);
        desk.order(0);
        desk.shape(0, 9);
        desk.count(1);
        desk.fault(1);
    }
}
