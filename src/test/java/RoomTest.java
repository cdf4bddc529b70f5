import com.sun.management.ThreadMXBean;
import java.lang.management.ManagementFactory;

/**
 * What runs of 512 calls make, in bytes: the room has 7.3 million fields and elements; the class's
 * are longs and ints but for the tape, so 24 million bytes are fewer than 6 million of them.
 */
public final class RoomTest {
    private static final long MOST = 24000000L;
    private static final String TEXT = "lease a 0 48 1000;lease b 1 48 1000;lease c 2 48 1000;lease d 3 48 1000;"
        + "pay a 1 48 999;pay b 1 48 999;tied a;tied b;tied c;tied d;option a 1 1;option a 2 2;option a 3 3;option a 4 4;";

    private RoomTest() {
    }

    public static void main(String[] args) {
        ThreadMXBean bean = (ThreadMXBean) ManagementFactory.getThreadMXBean();
        long id = Thread.currentThread().getId();
        for (int kind = 0; kind < 3; kind++) {
            run(kind);
            long ahead = bean.getThreadAllocatedBytes(id);
            run(kind);
            long made = bean.getThreadAllocatedBytes(id) - ahead;
            System.out.println("run " + kind + " made " + made + " bytes");
            Check.yes("run " + kind + " made " + made + " bytes", made < MOST);
        }
        Check.end();
    }

    private static void run(int kind) {
        if (kind == 0) {
            oneObject();
        } else if (kind == 1) {
            manyObjects();
        } else {
            manyTexts();
        }
    }

    private static void oneObject() {
        LeaseLedger x = Check.told(TEXT);
        for (int i = 0; i < 480; i++) {
            switch (i % 12) {
                case 0: x.go(12); break;
                case 1: x.chance(i, 10, 0); break;
                case 2: x.plan(0, 72, 0); break;
                case 3: x.choose(0); break;
                case 4: x.keep(); break;
                case 5: x.half(0); break;
                case 6: x.rate(0, i); break;
                case 7: x.peak(0); break;
                case 8: x.undo(); break;
                case 9: x.cash(0, 71); break;
                case 10: x.become(500 + i); break;
                default: x.back(); break;
            }
        }
    }

    private static void manyObjects() {
        byte[] bytes = Check.bytes("lease a 0 48 1000;");
        for (int i = 0; i < 85; i++) {
            LeaseLedger x = new LeaseLedger();
            Check.feed(x, bytes);
            x.text(bytes.length);
            x.go(12);
            x.go(12);
            x.keep();
        }
    }

    private static void manyTexts() {
        LeaseLedger x = new LeaseLedger();
        byte[] bytes = Check.bytes("lease a 0 48 1000;");
        for (int i = 0; i < 256; i++) {
            Check.feed(x, bytes);
            x.text(bytes.length);
        }
    }
}
