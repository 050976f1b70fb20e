import com.sun.management.ThreadMXBean;
import java.lang.management.ManagementFactory;

/** After its constructor an object makes nothing more: all calls of a run live in one room. */
public final class RoomTest {
    private static final int MOST_BYTES_OF_AN_OBJECT = 32 * 1024;
    private static final int MOST_BYTES_OF_ITS_CALLS = 1024;

    public static void main(String[] args) {
        ThreadMXBean threads = (ThreadMXBean) ManagementFactory.getThreadMXBean();
        useAll(new ColourSums(6, 6));
        long before = threads.getCurrentThreadAllocatedBytes();
        ColourSums sums = new ColourSums(6, 6);
        long made = threads.getCurrentThreadAllocatedBytes();
        useAll(sums);
        long used = threads.getCurrentThreadAllocatedBytes();
        Check.due("a new object's room is small", true, made - before <= MOST_BYTES_OF_AN_OBJECT);
        Check.due("its calls make nothing", true, used - made <= MOST_BYTES_OF_ITS_CALLS);
        System.out.println((made - before) + " bytes made, " + (used - made) + " more by its calls");
        Check.end();
    }

    private static void useAll(ColourSums sums) {
        for (int c = 0; c < 36; c++) {
            sums.cell(c % 6, c / 6, true);
        }
        for (int p = 0; p < 6; p++) {
            sums.piece();
            sums.square(p, 0, 0);
            sums.square(p, 0, 1);
            sums.square(p, p % 3 + 1, p % 2);
        }
        for (int round = 0; round < 20; round++) {
            sums.cell(round % 6, round / 6, round % 3 != 0);
            sums.placements(round % 6);
            sums.placement(round % 6, round, 1);
            sums.sizes();
            sums.colour(2);
            sums.colour(13);
            sums.weight(1, 1);
            sums.text(round);
            sums.own(1, 1, round);
            sums.sum();
            sums.bad(3);
            sums.proves(3);
            sums.border(round);
            sums.runs(3);
            sums.run(3, 1);
            sums.piece();
        }
    }
}
