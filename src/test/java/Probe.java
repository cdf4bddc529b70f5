import java.util.ArrayList;
import java.util.List;
import java.util.function.Supplier;

/**
 * All that can be seen of a ledger, also what only later calls show (deeds to undo, the IMAGE, the TAPE). It is
 * looked at in parts, each on an object of its own made the same way: an object has 512 calls.
 */
final class Probe {
    /** All but the FAULT, which a refused text changes. */
    static final int FAULT_AT = 8;

    private Probe() {
    }

    static List<Long> of(Supplier<LeaseLedger> made) {
        List<Long> seen = new ArrayList<>();
        state(made.get(), seen);
        dues(made.get(), 1, 48, seen);
        dues(made.get(), 49, 72, seen);
        indexes(made.get(), seen);
        entries(made.get(), 0, 20, seen);
        entries(made.get(), 20, 41, seen);
        asked(made.get(), seen);
        undone(made.get(), seen);
        LeaseLedger x = made.get();
        seen.add((long) x.back());
        state(x, seen);
        LeaseLedger y = made.get();
        seen.add((long) y.text(y.count(7)));
        state(y, seen);
        return seen;
    }

    /** The first thing that is not the same, NONE if all is. */
    static int firstDifference(List<Long> a, List<Long> b) {
        for (int i = 0; i < Math.max(a.size(), b.size()); i++) {
            if (i >= a.size() || i >= b.size() || !a.get(i).equals(b.get(i))) {
                return i;
            }
        }
        return -1;
    }

    private static void state(LeaseLedger x, List<Long> seen) {
        for (int what = 0; what < 8; what++) {
            seen.add((long) x.count(what));
        }
        seen.add((long) x.fault(0));
        seen.add((long) x.fault(1));
        for (int account = 0; account < 6; account++) {
            seen.add(x.account(account));
            for (int sort = 0; sort < 6; sort++) {
                seen.add(x.sum(account, sort));
            }
        }
        for (String name : new String[] {"a", "b", "c", "d", "t"}) {
            seen.add((long) x.named(Check.letters(name)));
        }
        for (int lease = 0; lease < 4; lease++) {
            for (int what = 0; what < 9; what++) {
                seen.add(Check.lease(x, lease, what));
            }
            for (int what = 0; what < 5; what++) {
                seen.add(x.moved(lease, what));
            }
            seen.add(x.amount(lease, 0));
            seen.add(x.amount(lease, 1));
        }
    }

    private static void dues(LeaseLedger x, int from, int to, List<Long> seen) {
        for (int lease = 0; lease < 4; lease++) {
            for (int k = from; k <= to; k++) {
                seen.add(x.due(lease, k));
            }
        }
    }

    private static void indexes(LeaseLedger x, List<Long> seen) {
        for (int period = 0; period < 100; period++) {
            seen.add((long) x.index(period));
        }
    }

    private static void entries(LeaseLedger x, int from, int behind, List<Long> seen) {
        for (int k = from; k < behind; k++) {
            for (int what = 0; what < 16; what = what == 2 ? 10 : what + 1) {
                seen.add(x.entry(k, what));
            }
        }
    }

    /** What stands behind no plain call: SETTING, options, the seed. */
    private static void asked(LeaseLedger x, List<Long> seen) {
        for (int what = 0; what < 3; what++) {
            seen.add(x.chance(-1, 3, what));
        }
        for (int i = 0; i < 4; i++) {
            seen.add(x.ifTaken(i));
            seen.add(x.ifIndex(i, 500));
            seen.add(x.ifIndex(i, 1999));
            seen.add((long) x.choose(i));
            seen.add((long) x.half(i));
            seen.add(x.life(i, false));
            seen.add(x.life(i, true));
            seen.add(x.plan(i, 7, 0));
            seen.add(x.plan(i, 7, 1));
            seen.add(x.plan(i, 72, 2));
            seen.add(x.plan(i, 72, 3));
            seen.add(x.worth(i, 1, 33333));
        }
        seen.add(x.all(20));
        seen.add(x.peak(0));
        seen.add(x.peak(1));
        seen.add(x.cash(0, 71));
        seen.add((long) x.heaviest());
    }

    /** What is undone, deed by deed, till nothing is left to undo. */
    private static void undone(LeaseLedger x, List<Long> seen) {
        for (int i = 0; i < 22; i++) {
            seen.add((long) x.undo());
            for (int what = 2; what < 7; what++) {
                seen.add((long) x.count(what));
            }
            for (int lease = 0; lease < 4; lease++) {
                seen.add(x.amount(lease, 0));
                seen.add(x.amount(lease, 1));
            }
            seen.add(x.account(5));
            seen.add((long) x.index(Math.max(0, x.count(2))));
        }
    }
}
