import com.sun.management.ThreadMXBean;
import java.lang.management.ManagementFactory;

/** All calls of a run share one room: the calls make no objects, the constructor few. */
final class AllocationTest {
    private static final ThreadMXBean THREADS =
            (ThreadMXBean) ManagementFactory.getThreadMXBean();

    public static void main(String[] args) {
        manyCalls(new PseudoBoolean());
        PseudoBoolean x = new PseudoBoolean();
        long before = allocated();
        manyCalls(x);
        long byCalls = allocated() - before;
        // The output grows to its length once; that is a text of 191 bytes and its former ones.
        Check.yes("calls make next to nothing: " + byCalls + " bytes", byCalls < 2000);
        before = allocated();
        new PseudoBoolean().push();
        long byConstructor = allocated() - before;
        Check.yes("a new object is small: " + byConstructor + " bytes", byConstructor < 40000);
        Check.finish();
    }

    private static long allocated() {
        return THREADS.getThreadAllocatedBytes(Thread.currentThread().getId());
    }

    private static void manyCalls(PseudoBoolean x) {
        for (int i = 0; i < 10; i++) {
            // "2a + ~b + 3c = 3" and blanks
            x.feed(0x3261202B, 0x207E6220, 0x2B203363, 0x203D2033, 0x20202020);
            x.trim(16);
            x.post();
            x.feed(0x61202B20, 0x6220203E, 0x3D203120, 0x20202020, 0x20202020);
            x.isImplied();
            x.push();
            x.sum(0, 1);
            x.multiple(0, 7);
            x.quotient(0, 2);
            x.saturation(0);
            x.weakening(0, 1);
            x.resolvent(0, 1, 0);
            x.cardinalityConstraint(1);
            x.group(0);
            x.addGroup();
            x.write(2);
            x.decide(7);
            x.firstModel();
            x.nextModel(5);
            x.modelCount();
            x.isForced(4);
            x.leastCost();
            x.cheapestModel();
            x.explain(4, 2);
            x.digest();
            x.undo();
            x.pop();
        }
    }
}
