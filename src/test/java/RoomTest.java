import com.sun.management.ThreadMXBean;
import java.lang.management.ManagementFactory;

/** A run lives in one room: an object is small, and its calls make nothing more. */
public final class RoomTest {
    private static final Checks CHECKS = new Checks("the room");
    private static final ThreadMXBean MEMORY = (ThreadMXBean) ManagementFactory.getThreadMXBean();
    private static long answers;

    public static void main(String[] args) {
        StemMill[] mills = new StemMill[600];
        make(mills, 10);
        long before = MEMORY.getCurrentThreadAllocatedBytes();
        make(mills, mills.length);
        long each = (MEMORY.getCurrentThreadAllocatedBytes() - before) / mills.length;
        // 512 objects in a room of 7.3 million elements: 14,000 elements of four bytes each.
        CHECKS.taken("an object takes " + each + " bytes", each < 4 * 14000);
        work(mills[0], 3);
        before = MEMORY.getCurrentThreadAllocatedBytes();
        work(mills[1], 36);
        long made = MEMORY.getCurrentThreadAllocatedBytes() - before;
        CHECKS.taken("504 calls made " + made + " bytes", made < 4096);
        CHECKS.taken("answers", answers > 0);
        CHECKS.end();
    }

    private static void make(StemMill[] mills, int count) {
        for (int i = 0; i < count; i++) {
            mills[i] = new StemMill(80);
        }
    }

    private static void work(StemMill mill, int rounds) {
        for (int i = 0; i < rounds; i++) {
            for (int point = 0; point < 4; point++) {
                mill.diameter(point, 900 - i);
            }
            mill.logKind(0, 3, 800);
            mill.priceOf(0, 18 - (i + 49) / 50, 1, 9);
            mill.size(i % 6, 60 + i, 300);
            mill.boardPrice(i % 6, 1, 1 + i);
            mill.height(i % 4, 300);
            mill.need(i % 6, 1000);
            answers += mill.buck() + mill.byHand(1);
            answers += mill.saw(0) + mill.board(0, 2);
        }
    }
}
