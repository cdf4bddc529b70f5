import com.sun.management.ThreadMXBean;
import java.lang.management.ManagementFactory;
import java.lang.reflect.Array;
import java.lang.reflect.Field;
import java.lang.reflect.Modifier;
import java.util.ArrayDeque;
import java.util.Collections;
import java.util.Deque;
import java.util.IdentityHashMap;
import java.util.NoSuchElementException;
import java.util.Set;

/**
 * What objects and calls make, against the room of a run: some 600,000 objects and arrays, 7.3 million
 * fields and elements. Bytes stand for both: an object has 16 of them at least, a field or element one.
 */
public final class RoomTest {
    private static final long ROOM_OBJECTS = 600000L;
    private static final long ROOM_ELEMENTS = 7300000L;
    private static final long CALLS = 512L;
    private static final String TEXT = "lease a 0 48 1000;lease b 1 48 1000;lease c 2 48 1000;lease d 3 48 1000;"
        + "pay a 1 48 999;pay b 1 48 999;fair a 20000;fair b 20000;tied a;tied b;tied c;tied d;index 7 1100;"
        + "option a 1 1;option a 2 2;option a 3 3;option a 4 4;seed 7;";
    private static final byte[] BYTES = Check.bytes(TEXT);
    private static final int KINDS = 44;
    private static final int THROWS_OUT = 42;
    private static final int THROWS_NO_SUCH = 43;

    private static final ThreadMXBean BEAN = (ThreadMXBean) ManagementFactory.getThreadMXBean();
    private static final long ME = Thread.currentThread().getId();

    private RoomTest() {
    }

    public static void main(String[] args) throws Exception {
        newObject();
        dearestCall();
        runs();
        Check.end();
    }

    /** The constructor is called once a run: a hundredth of the room is enough for all rows. */
    private static void newObject() throws Exception {
        LeaseLedger x = new LeaseLedger();
        long[] made = held(x);
        System.out.println("a new object holds " + made[0] + " objects and arrays, " + made[1] + " fields and elements");
        Check.yes("objects of a new object: " + made[0], made[0] * 100 <= ROOM_OBJECTS);
        Check.yes("elements of a new object: " + made[1], made[1] * 100 <= ROOM_ELEMENTS);
        for (int i = 0; i < CALLS; i++) {
            if (i % KINDS == 0) {
                Check.feed(x, BYTES);
            }
            anyCall(x, i % KINDS, 1);
        }
        long[] later = held(x);
        Check.due("objects held behind 512 calls", later[0], made[0]);
        Check.due("elements held behind 512 calls", later[1], made[1]);
    }

    /** What the dearest call makes on an object that was made ahead of it, times 512. */
    private static void dearestCall() {
        long most = 0;
        for (int stage = 0; stage < 3; stage++) {
            for (int kind = 0; kind < KINDS; kind++) {
                long made = madeBy(stage, kind);
                most = Math.max(most, made);
                // An exception is the one thing that a call may make.
                if (kind != THROWS_OUT && kind != THROWS_NO_SUCH && (kind != 5 || stage != 0)) {
                    Check.due("bytes made by call " + kind + " on an object of stage " + stage, made, 0);
                }
            }
        }
        System.out.println("the dearest call made " + most + " bytes, times 512: " + most * CALLS);
        Check.yes("objects of the dearest call times 512", most / 16 * CALLS * 10 <= ROOM_OBJECTS);
        Check.yes("elements of the dearest call times 512", most * CALLS * 10 <= ROOM_ELEMENTS);
    }

    /** The least of a few times: the first one loads classes, which isn't the call's doing. */
    private static long madeBy(int stage, int kind) {
        long least = Long.MAX_VALUE;
        for (int i = 0; i < 4; i++) {
            LeaseLedger x = madeAhead(stage);
            long ahead = BEAN.getThreadAllocatedBytes(ME);
            anyCall(x, kind, 0);
            least = Math.min(least, BEAN.getThreadAllocatedBytes(ME) - ahead);
        }
        return least;
    }

    private static LeaseLedger madeAhead(int stage) {
        LeaseLedger x = new LeaseLedger();
        Check.feed(x, BYTES);
        if (stage > 0) {
            x.text(BYTES.length);
            Check.feed(x, BYTES);
        }
        if (stage > 1) {
            x.go(4);
            x.keep();
        }
        return x;
    }

    /** Every call of the face, with the arguments for which it does most. */
    private static long anyCall(LeaseLedger x, int kind, int few) {
        switch (kind) {
            case 0: return x.feed(1, 2, 3, 4, 5);
            case 1: return x.text(BYTES.length);
            case 2: return x.fault(0);
            case 3: return x.named(Check.letters("d"));
            case 4: return x.go(few == 0 ? 12 : few);
            case 5: return leaseOrThrow(x, 0, 0);
            case 6: return x.amount(0, 0);
            case 7: return x.due(0, 1);
            case 8: return x.worth(0, 1, 1000000);
            case 9: return x.index(99);
            case 10: return x.account(5);
            case 11: return x.entry(3, 15);
            case 12: return x.rate(0, 5000);
            case 13: return x.extend(0, few == 0 ? 14 : few);
            case 14: return x.take(3);
            case 15: return x.part(0, 100);
            case 16: return few == 0 ? x.end(0) : x.end(3);
            case 17: return x.down(0, 1);
            case 18: return x.putOff(0, 10, 40);
            case 19: return x.become(1234);
            case 20: return x.plan(0, 72, 3);
            default: return askedCall(x, kind);
        }
    }

    private static long askedCall(LeaseLedger x, int kind) {
        switch (kind) {
            case 21: return x.all(72);
            case 22: return x.soon(0, 1);
            case 23: return x.sum(1, 1);
            case 24: return x.moved(0, 4);
            case 25: return x.choose(0);
            case 26: return x.life(0, true);
            case 27: return x.peak(1);
            case 28: return x.partFor(0, 999999999L);
            case 29: return x.latest(3, 5);
            case 30: return x.half(0);
            case 31: return x.cash(0, 71);
            case 32: return x.ifIndex(0, 1999);
            case 33: return x.ifTaken(3);
            case 34: return x.yields(0, 1, 100);
            case 35: return x.level(0, 99999999L);
            case 36: return x.heaviest();
            case 37: return x.chance(-1, 10, 2);
            case 38: return x.undo();
            case 39: return x.keep();
            case 40: return x.back();
            case 41: return x.count(5);
            case THROWS_OUT: return leaseOrThrow(x, 9, 0);
            case THROWS_NO_SUCH: return leaseOrThrow(x, 0, 9);
            default: return 0;
        }
    }

    private static long leaseOrThrow(LeaseLedger x, int lease, int what) {
        try {
            return x.lease(lease, what);
        } catch (IndexOutOfBoundsException | NoSuchElementException e) {
            return -9;
        }
    }

    private static void runs() {
        for (int kind = 0; kind < 2; kind++) {
            run(kind);
            long ahead = BEAN.getThreadAllocatedBytes(ME);
            run(kind);
            long made = BEAN.getThreadAllocatedBytes(ME) - ahead;
            System.out.println("run " + kind + " made " + made + " bytes");
            Check.yes("run " + kind + " made " + made + " bytes", made * 10 <= ROOM_ELEMENTS);
        }
    }

    private static void run(int kind) {
        LeaseLedger x = madeAhead(2);
        for (int i = 0; i < 430; i++) {
            if (kind == 1) {
                anyCall(x, i % KINDS, 1);
            } else if (i % 9 == 8) {
                Check.feed(x, BYTES);
                x.text(BYTES.length);
            } else {
                x.go(12);
            }
        }
    }

    /** Objects and arrays within reach of an object, and their fields and elements. */
    private static long[] held(Object first) throws Exception {
        Set<Object> seen = Collections.newSetFromMap(new IdentityHashMap<>());
        Deque<Object> open = new ArrayDeque<>();
        open.add(first);
        seen.add(first);
        long elements = 0;
        while (!open.isEmpty()) {
            Object x = open.remove();
            if (x.getClass().isArray()) {
                int length = Array.getLength(x);
                elements += length;
                for (int i = 0; i < length && !x.getClass().getComponentType().isPrimitive(); i++) {
                    reach(Array.get(x, i), seen, open);
                }
                continue;
            }
            for (Field f : x.getClass().getDeclaredFields()) {
                if (Modifier.isStatic(f.getModifiers())) {
                    continue;
                }
                elements++;
                f.setAccessible(true);
                if (!f.getType().isPrimitive()) {
                    reach(f.get(x), seen, open);
                }
            }
        }
        return new long[] {seen.size(), elements};
    }

    private static void reach(Object x, Set<Object> seen, Deque<Object> open) {
        if (x != null && seen.add(x)) {
            open.add(x);
        }
    }
}
