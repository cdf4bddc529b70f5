import java.util.IdentityHashMap;
import java.util.List;
import java.util.Map;
import java.util.function.Supplier;

/** Two ledgers made the same way, one of them with a call more: whether that call changed anything. */
final class Twin {
    interface Call {
        long of(LeaseLedger x);
    }

    interface CallOf {
        long of(LeaseLedger x, int v);
    }

    /** Four leases, one that begins late, one tied and early, options, indexes, a seed: fully told. */
    static final String RICH = "lease a 0 9 100000;pay a 1 9 1000;fee a 7;option a 3 500;option a 1 9;"
        + "lease t 0 12 5000;pay t 1 12 1001;tied t;early t;option t 2 100;lease c 3 9 0;pay c 1 9 77;"
        + "lease d 20 48 200000;pay d 1 48 9;index 2 1100;index 30 1500;seed 5;";

    /** Leases that go on for long, one of them INDEXED in between, so that its DUE and its SETTING are not the same. */
    static final String LONG = "lease a 0 48 1000;pay a 1 48 500;fee a 50;option a 1 1;option a 2 7;lease b 0 48 2000;"
        + "pay b 1 48 999;tied b;option b 2 9;lease c 0 48 0;pay c 1 48 3;lease d 0 30 7;pay d 1 30 44;early d;"
        + "index 3 1234;index 40 1500;seed 77;";

    static final Supplier<LeaseLedger> NEW = LeaseLedger::new;
    static final Supplier<LeaseLedger> TOLD = () -> Check.told(RICH);
    static final Supplier<LeaseLedger> BEGUN = Twin::begun;
    /** INDEXED: DUE is not SETTING. */
    static final Supplier<LeaseLedger> INDEXED = Twin::indexed;
    /** A full JOURNAL, with room for deeds to undo still. */
    static final Supplier<LeaseLedger> FULL = Twin::full;
    static final Supplier<LeaseLedger> BUSY = Twin::busy;
    static final Supplier<LeaseLedger> ENDED = Twin::ended;
    static final Supplier<LeaseLedger> LATE = Twin::late;

    private static final Map<Supplier<LeaseLedger>, List<Long>> SEEN = new IdentityHashMap<>();

    private Twin() {
    }

    private static LeaseLedger begun() {
        LeaseLedger x = Check.told(RICH);
        x.go(1);
        return x;
    }

    private static LeaseLedger indexed() {
        LeaseLedger x = Check.told(LONG);
        x.go(4);
        return x;
    }

    private static LeaseLedger full() {
        LeaseLedger x = Check.told(LONG);
        x.go(12);
        return x;
    }

    /** Twenty deeds to undo, forty ENTRIES and more, an IMAGE that is another state, something on the TAPE. */
    private static LeaseLedger busy() {
        LeaseLedger x = Check.told(RICH);
        x.go(3);
        x.rate(0, 50000);
        x.become(1200);
        x.part(1, 100);
        x.keep();
        x.down(0, 5);
        x.putOff(0, 4, 6);
        x.extend(1, 2);
        x.take(1);
        for (int i = 0; i < 24; i++) {
            x.rate(1, 5000 + i);
        }
        x.go(4);
        x.become(1300);
        x.end(2);
        x.go(1);
        Check.feed(x, Check.bytes("seed 9;lease b 0 1 0;"));
        return x;
    }

    /** Leases 0 to 2 are ENDED, by their last own period and by call; 3 has not begun. */
    private static LeaseLedger ended() {
        LeaseLedger x = Check.told(RICH);
        x.go(11);
        x.end(1);
        x.go(1);
        x.keep();
        return x;
    }

    /** PERIOD 99: nothing comes any more. */
    private static LeaseLedger late() {
        LeaseLedger x = Check.told(RICH);
        for (int i = 0; i < 8; i++) {
            x.go(12);
        }
        x.go(3);
        return x;
    }

    /** The call answers so, and nothing has changed behind it. */
    static void refused(String name, Supplier<LeaseLedger> made, Call call, long want) {
        Sentences.is(name, call.of(made.get()), want);
        leaves(name, made, call);
    }

    /** Whatever the call answers, nothing has changed behind it. */
    static void leaves(String name, Supplier<LeaseLedger> made, Call call) {
        List<Long> was = SEEN.computeIfAbsent(made, Probe::of);
        List<Long> then = Probe.of(() -> {
            LeaseLedger x = made.get();
            call.of(x);
            return x;
        });
        Sentences.is(name + " changes nothing (the first thing that it changed)", Probe.firstDifference(was, then), -1);
    }

    /** Of whole numbers that a call takes: the last that is taken and the first that is refused, on both sides. */
    static void bounds(String name, Supplier<LeaseLedger> made, CallOf call, long refusal, int low, int high) {
        Sentences.holds(name + " takes " + low, call.of(made.get(), low) != refusal);
        Sentences.holds(name + " takes " + high, call.of(made.get(), high) != refusal);
        int[] beyond = {low - 1, high + 1, Integer.MIN_VALUE, Integer.MAX_VALUE};
        for (int v : beyond) {
            if (v < low || v > high) {
                refused(name + " of " + v, made, x -> call.of(x, v), refusal);
            }
        }
    }

    /** Of the LEASES that there are: none in a new object, four in a full one. */
    static void leases(String name, Supplier<LeaseLedger> four, CallOf call, long refusal) {
        refused(name + " of 0, there are none", NEW, x -> call.of(x, 0), refusal);
        bounds(name + " of a LEASE", four, call, refusal, 0, 3);
    }
}
