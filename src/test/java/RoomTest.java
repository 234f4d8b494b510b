import java.lang.management.ManagementFactory;

/**
 * What is made is counted and never given back, so that 512 calls, of the dearest ones too, must
 * leave most of the room free. Bytes stand for elements here: the room has 7.3 million of them.
 */
public final class RoomTest {
    private static final long FEW_BYTES = 400_000;
    private static final Due DUE = new Due();

    public static void main(String[] args) {
        made();
        long before = madeBytes();
        KingsInches x = new KingsInches();
        DUE.holds("a new object is small", madeBytes() - before < 40_000);
        before = madeBytes();
        long sum = 0;
        for (int call = 0; call < 128; call++) {
            sum += x.best(0, call, 30, 8, 200, 8) + x.found(0, 8, 0);
            sum += x.alone(30, 34, 8, 30, 100, 100, 0, 0);
            sum += x.image(0);
        }
        DUE.holds("512 dear calls make little", madeBytes() - before < FEW_BYTES && sum != 0);
        DUE.end();
    }

    /** Loads what is needed, so that only the class's own making is counted. */
    private static void made() {
        KingsInches x = new KingsInches();
        x.alone(30, 34, 8, 30, 100, 100, 0, 0);
        x.best(0, 0, 30, 8, 200, 1);
        x.image(0);
        madeBytes();
    }

    private static long madeBytes() {
        com.sun.management.ThreadMXBean bean =
                (com.sun.management.ThreadMXBean) ManagementFactory.getThreadMXBean();
        return bean.getCurrentThreadAllocatedBytes();
    }
}
