import static java.lang.Integer.MAX_VALUE;
import static java.lang.Integer.MIN_VALUE;

/** The bounds that promise 1 and promises 6 to 26 name, sentence by sentence. */
final class CallBounds {
    private static final long NO = Check.NO;
    /** Paid at the end: 1100 twice by a tenth, worth 1909; 1000 is OWED behind the first, 955 USED. */
    private static final String PLAIN = "lease a 0 2 100000;pay a 1 2 1100;option a 2 500;";
    private static final String FOUR = "lease a 0 9 0;lease b 0 9 0;lease c 0 9 0;lease d 0 9 0;"
        + "pay a 1 9 10;pay b 1 9 10;pay c 1 9 10;pay d 1 9 10;"
        + "option a 1 5;option b 1 5;option c 1 5;option d 1 5;";

    private CallBounds() {
    }

    static void run() {
        promise1();
        promise6();
        promise7();
        promise7Throws();
        promise8();
        promise9();
        promise10();
        promise11();
        promise12();
        promise13();
        promise14();
        promise15();
        promise16();
        promise17();
        promise18();
        promise19();
        promise20();
        promise21();
        promise22();
        promise23();
        promise24();
        promise25();
        promise26();
    }

    private static void says(String words) {
        Sentences.says(words);
    }

    private static void is(String call, long got, long want) {
        Sentences.is(call, got, want);
    }

    private static LeaseLedger plain() {
        LeaseLedger x = Check.told(PLAIN);
        x.go(1);
        return x;
    }

    static LeaseLedger four() {
        LeaseLedger x = Check.told(FOUR);
        x.go(1);
        return x;
    }

    static LeaseLedger inPeriod(String text, int period) {
        LeaseLedger x = Check.told(text);
        for (int left = period; left > 0; left -= 12) {
            x.go(Math.min(12, left));
        }
        return x;
    }

    private static void promise1() {
        Sentences.in("Promise 1");
        says("No LEASES; an empty TAPE.");
        LeaseLedger x = new LeaseLedger();
        for (int what = 0; what < 8; what++) {
            is("count(" + what + ")", x.count(what), 0);
        }
        is("fault(0)", x.fault(0), 0);
        is("fault(1)", x.fault(1), -1);
        is("lease(0, 0)", Check.lease(x, 0, 0), Check.OUT);
        is("named(0)", x.named(0), -1);
        is("index(0)", x.index(0), 1000);
        is("index(99)", x.index(99), 1000);
        for (int account = 0; account < 6; account++) {
            is("account(" + account + ")", x.account(account), 0);
        }
        is("entry(0, 0)", x.entry(0, 0), NO);
        is("take(0)", x.take(0), NO);
        is("heaviest()", x.heaviest(), -2);
        is("peak(0)", x.peak(0), -2);
        is("cash(0, 71)", x.cash(0, 71), 0);
        is("all(72)", x.all(72), 0);
        is("chance(-1, 10, 0)", x.chance(-1, 10, 0), 0);
        is("undo()", x.undo(), -1);
        is("back()", x.back(), -1);
        is("text(1)", x.text(1), -2);
        is("text(0)", x.text(0), 0);
        is("go(12)", x.go(12), 12);
    }

    private static void promise6() {
        Sentences.in("Promise 6");
        says("n 1 .. 12 PERIODS go by: the PERIOD then;");
        is("go(1)", Twin.TOLD.get().go(1), 1);
        is("go(12)", Twin.TOLD.get().go(12), 12);
        LeaseLedger x = Twin.TOLD.get();
        LeaseLedger y = Twin.TOLD.get();
        x.go(12);
        for (int i = 1; i <= 12; i++) {
            is("go(1)", y.go(1), i);
        }
        is("go(12) is twelve times go(1): all()", x.all(0), y.all(0));
        is("ENTRIES", x.count(4), y.count(4));
        says("-2: it would be beyond 99;");
        is("go(12) in PERIOD 87", inPeriod("", 87).go(12), 99);
        Twin.refused("go(12) in PERIOD 88", () -> inPeriod(Twin.RICH, 88), z -> z.go(12), -2);
        is("go(11) in PERIOD 88", inPeriod("", 88).go(11), 99);
        is("go(1) in PERIOD 98", inPeriod("", 98).go(1), 99);
        Twin.refused("go(2) in PERIOD 98", () -> inPeriod(Twin.RICH, 98), z -> z.go(2), -2);
        Twin.refused("go(1) in PERIOD 99", Twin.LATE, z -> z.go(1), -2);
        says("NONE: no such n.");
        Twin.bounds("go", Twin.BUSY, (z, n) -> z.go(n), -1, 1, 12);
        Twin.refused("go(13) in PERIOD 99", Twin.LATE, z -> z.go(13), -1);
        Twin.refused("go(0) in PERIOD 99", Twin.LATE, z -> z.go(0), -1);
        Twin.refused("go of the greatest int in PERIOD 99", Twin.LATE, z -> z.go(MAX_VALUE), -1);
    }

    private static void promise7() {
        Sentences.in("Promise 7");
        says("Of a LEASE, what 0 the PERIOD in which it begins, 1 TERM, 2 RATE, 3 0 not begun, 1 begun, 2 ENDED,"
            + " 4 own periods left (not begun: TERM; ENDED: 0), 5 BASE (0: not begun), 6 fee, 7 whether FOUND (1, 0),"
            + " 8 the INDEX by which it was INDEXED last (BASE at first; 0: not begun).");
        LeaseLedger x = Check.told("lease a 1 4 77;fee a 99999;tied a;lease b 1 4 77;pay b 1 1 1000;fair b 990;");
        x.become(700);
        leaseIs(x, 0, 1, 4, 77, 0, 4, 0, 99999, 0, 0);
        x.go(1);
        leaseIs(x, 0, 1, 4, 77, 0, 4, 0, 99999, 0, 0);
        is("lease(1, 2)", Check.lease(x, 1, 2), 10611);
        is("lease(1, 7)", Check.lease(x, 1, 7), 1);
        x.go(1);
        leaseIs(x, 0, 1, 4, 77, 1, 3, 700, 99999, 0, 700);
        x.become(500);
        leaseIs(x, 0, 1, 4, 77, 1, 3, 700, 99999, 0, 700);
        x.go(1);
        leaseIs(x, 0, 1, 4, 77, 1, 2, 700, 99999, 0, 500);
        is("lease(1, 8), not tied", Check.lease(x, 1, 8), 700);
        x.extend(0, 24);
        x.rate(0, 200000);
        leaseIs(x, 0, 1, 28, 200000, 1, 26, 700, 99999, 0, 500);
        x.end(0);
        leaseIs(x, 0, 1, 28, 200000, 2, 0, 700, 99999, 0, 500);
        x.go(2);
        is("lease(1, 3)", Check.lease(x, 1, 3), 2);
        is("lease(1, 4)", Check.lease(x, 1, 4), 0);
        is("lease(1, 1)", Check.lease(x, 1, 1), 4);
    }

    private static void leaseIs(LeaseLedger x, int lease, long... due) {
        for (int what = 0; what < due.length; what++) {
            is("lease(" + lease + ", " + what + ")", Check.lease(x, lease, what), due[what]);
        }
    }

    private static void promise7Throws() {
        says("IndexOutOfBoundsException: no such LEASE.");
        Twin.leases("lease", CallBounds::four, (x, i) -> Check.lease(x, i, 0), Check.OUT);
        says("NoSuchElementException: no such what.");
        Twin.bounds("lease(0, ..)", Twin.BUSY, (x, what) -> Check.lease(x, 0, what), Check.NO_SUCH, 0, 8);
        Twin.bounds("lease(3, ..), not begun", Twin.TOLD, (x, what) -> Check.lease(x, 3, what), Check.NO_SUCH, 0, 8);
    }

    private static void promise8() {
        Sentences.in("Promise 8");
        says("Of a LEASE, what 0 OWED, 1 USED;");
        is("amount(0, 0)", plain().amount(0, 0), 1000);
        is("amount(0, 1)", plain().amount(0, 1), 955);
        is("not begun: amount(0, 0)", Check.told(PLAIN).amount(0, 0), 0);
        is("not begun: amount(0, 1)", Check.told(PLAIN).amount(0, 1), 0);
        is("ENDED: amount(0, 0)", Twin.ENDED.get().amount(0, 0), 0);
        says("NONE: no such ones.");
        Twin.leases("amount(.., 0)", CallBounds::four, (x, i) -> x.amount(i, 0), -1);
        Twin.bounds("amount(0, ..)", Twin.BUSY, (x, what) -> x.amount(0, what), -1, 0, 1);
    }

    private static void promise9() {
        Sentences.in("Promise 9");
        says("DUE of an own period 1 .. TERM;");
        is("due(0, 1)", plain().due(0, 1), 1100);
        is("due(0, 2)", plain().due(0, 2), 1100);
        says("NONE: no such ones.");
        Twin.leases("due(.., 1)", CallBounds::four, (x, i) -> x.due(i, 1), -1);
        Twin.bounds("due(0, ..) of TERM 2", CallBounds::plain, (x, k) -> x.due(0, k), -1, 1, 2);
        Twin.bounds("due(3, ..) of TERM 48", Twin.TOLD, (x, k) -> x.due(3, k), -1, 1, 48);
        Twin.bounds("due(0, ..) of TERM 72", CallBounds::term72, (x, k) -> x.due(0, k), -1, 1, 72);
    }

    private static LeaseLedger term72() {
        LeaseLedger x = Check.told("lease a 0 48 0;pay a 1 48 5;");
        x.go(1);
        x.extend(0, 24);
        return x;
    }

    private static void promise10() {
        Sentences.in("Promise 10");
        says("WORTH of a LEASE's own periods from k 1 .. TERM on by a rate 0 .. 1000000, by DUE as it is;");
        is("worth(0, 1, 0)", plain().worth(0, 1, 0), 2200);
        is("worth(0, 2, 0)", plain().worth(0, 2, 0), 1100);
        is("worth(0, 2, 1000000)", plain().worth(0, 2, 1000000), 550);
        LeaseLedger x = plain();
        x.part(0, 500);
        is("worth(0, 1, 0), 550 is DUE of the second", x.worth(0, 1, 0), 1650);
        x.end(0);
        is("worth(0, 1, 0) of one that is ENDED", x.worth(0, 1, 0), 1650);
        is("worth(0, 1, 0) of one not begun", Check.told(PLAIN).worth(0, 1, 0), 2200);
        says("NONE: no such ones.");
        Twin.leases("worth(.., 1, 0)", CallBounds::four, (y, i) -> y.worth(i, 1, 0), -1);
        Twin.bounds("worth(0, .., 0)", CallBounds::plain, (y, k) -> y.worth(0, k, 0), -1, 1, 2);
        Twin.bounds("worth(0, .., 0) of TERM 72", CallBounds::term72, (y, k) -> y.worth(0, k, 0), -1, 1, 72);
        Twin.bounds("worth(0, 1, ..)", CallBounds::plain, (y, rate) -> y.worth(0, 1, rate), -1, 0, 1000000);
    }

    private static void promise11() {
        Sentences.in("Promise 11");
        says("The INDEX of a PERIOD 0 .. 99 as it is known now (by call, too);");
        LeaseLedger x = Check.told("index 5 600;index 99 700;");
        is("index(0)", x.index(0), 1000);
        is("index(4)", x.index(4), 1000);
        is("index(5)", x.index(5), 600);
        is("index(98)", x.index(98), 600);
        is("index(99)", x.index(99), 700);
        x.become(2000);
        is("by call: index(0)", x.index(0), 2000);
        is("by call: index(4)", x.index(4), 2000);
        is("by call: index(5)", x.index(5), 600);
        says("NONE: no such one.");
        Twin.bounds("index", Twin.BUSY, (y, period) -> y.index(period), -1, 0, 99);
        Twin.bounds("index of a new object", Twin.NEW, (y, period) -> y.index(period), -1, 0, 99);
    }

    private static void promise12() {
        Sentences.in("Promise 12");
        says("An ACCOUNT 0 .. 5;");
        LeaseLedger x = plain();
        x.down(0, 5);
        long[] due = {-1100, -1000, 950, 191, 954, 5};
        for (int account = 0; account < 6; account++) {
            is("account(" + account + ")", x.account(account), due[account]);
        }
        says("Long.MIN_VALUE: no such one.");
        Twin.bounds("account", Twin.BUSY, (y, account) -> y.account(account), NO, 0, 5);
    }

    private static void promise13() {
        Sentences.in("Promise 13");
        says("Of the k-th latest ENTRY (0 the latest) what 0 its sort 0 .. 5, 1 its PERIOD, 2 its LEASE, 10 .. 15 its amount on an ACCOUNT;");
        LeaseLedger x = Check.told("lease b 9 9 0;lease a 3 9 0;pay a 1 9 10;fee a 6;");
        x.go(4);
        x.rate(1, 0);
        x.part(1, 500);
        x.down(1, 1);
        x.end(1);
        long[][] due = {{4, 4, 1, 0, 40, -42, 0, 0, 2}, {5, 4, 1, 0, 0, -1, 0, 0, 1}, {3, 4, 1, 0, 40, -43, 0, 0, 3},
            {2, 4, 1, 0, 0, 0, 0, 0, 0}, {1, 3, 1, -10, 10, -10, 0, 10, 0}, {0, 3, 1, -6, -90, 96, 0, 0, 0}};
        int[] whats = {0, 1, 2, 10, 11, 12, 13, 14, 15};
        for (int k = 0; k < due.length; k++) {
            for (int i = 0; i < whats.length; i++) {
                is("entry(" + k + ", " + whats[i] + ")", x.entry(k, whats[i]), due[k][i]);
            }
        }
        is("entry(6, 0)", x.entry(6, 0), NO);
        says("Long.MIN_VALUE: no such ones.");
        Twin.refused("entry(0, 0), there are none", Twin.TOLD, y -> y.entry(0, 0), NO);
        Twin.bounds("entry(.., 0) of one", CallBounds::oneEntry, (y, k) -> y.entry(k, 0), NO, 0, 2);
        Twin.bounds("entry(.., 0) of forty kept", Twin.BUSY, (y, k) -> y.entry(k, 0), NO, 0, 39);
        Twin.bounds("entry(0, ..), 0 .. 2", Twin.BUSY, (y, what) -> y.entry(0, what), NO, 0, 2);
        Twin.bounds("entry(0, ..), 10 .. 15", Twin.BUSY, (y, what) -> y.entry(0, what), NO, 10, 15);
        for (int what = 3; what < 10; what++) {
            is("entry(0, " + what + ")", Twin.BUSY.get().entry(0, what), NO);
        }
        is("entry(0, 26)", Twin.BUSY.get().entry(0, 26), NO);
    }

    private static LeaseLedger oneEntry() {
        LeaseLedger x = plain();
        x.rate(0, 5);
        return x;
    }

    private static void promise14() {
        Sentences.in("Promise 14");
        says("RATE becomes 0 .. 200000, RE-MEASURED: by how much OWED is more (below 0: less);");
        LeaseLedger x = plain();
        is("rate(0, 0)", x.rate(0, 0), 100);
        is("lease(0, 2)", Check.lease(x, 0, 2), 0);
        is("rate(0, 200000)", x.rate(0, 200000), -183);
        is("lease(0, 2)", Check.lease(x, 0, 2), 200000);
        is("rate(0, 200000) again", x.rate(0, 200000), 0);
        says("Long.MIN_VALUE: no such ones.");
        Twin.leases("rate(.., 1)", CallBounds::four, (y, i) -> y.rate(i, 1), NO);
        Twin.bounds("rate(0, ..)", Twin.BUSY, (y, rate) -> y.rate(0, rate), NO, 0, 200000);
        Twin.refused("rate(0, 5), not begun", Twin.TOLD, y -> y.rate(0, 5), NO);
        Twin.refused("rate(0, 5), ENDED", Twin.ENDED, y -> y.rate(0, 5), NO);
    }

    private static void promise15() {
        Sentences.in("Promise 15");
        says("n periods more: likewise;");
        is("extend(0, 1)", plain().extend(0, 1), 909);
        LeaseLedger x = Check.told("lease a 0 2 0;pay a 1 2 3;");
        x.go(1);
        is("extend(0, 24)", x.extend(0, 24), 72);
        is("lease(0, 1)", Check.lease(x, 0, 1), 26);
        says("Long.MIN_VALUE: no such ones, TERM would be above 72.");
        Twin.leases("extend(.., 1)", CallBounds::four, (y, i) -> y.extend(i, 1), NO);
        Twin.bounds("extend(0, ..)", CallBounds::plain, (y, n) -> y.extend(0, n), NO, 1, 24);
        Twin.bounds("extend(0, ..) of TERM 60", CallBounds::term60, (y, n) -> y.extend(0, n), NO, 1, 12);
        Twin.refused("extend(0, 1) of TERM 72", CallBounds::term72, y -> y.extend(0, 1), NO);
        Twin.refused("extend(0, 1), not begun", Twin.TOLD, y -> y.extend(0, 1), NO);
        Twin.refused("extend(0, 1), ENDED", Twin.ENDED, y -> y.extend(0, 1), NO);
    }

    private static LeaseLedger term60() {
        LeaseLedger x = Check.told("lease a 0 48 0;pay a 1 48 5;option a 12 1;option a 13 1;");
        x.go(1);
        x.extend(0, 12);
        return x;
    }

    private static void promise16() {
        Sentences.in("Promise 16");
        says("An option is taken: likewise;");
        LeaseLedger x = plain();
        is("take(0)", x.take(0), 789);
        is("lease(0, 1)", Check.lease(x, 0, 1), 4);
        is("take(3) of four", four().take(3), 5);
        says("Long.MIN_VALUE: no such one, it was, its LEASE doesn't go on, TERM would be above 72.");
        Twin.refused("take(0), there are none", Twin.NEW, y -> y.take(0), NO);
        Twin.bounds("take", CallBounds::four, (y, option) -> y.take(option), NO, 0, 3);
        Twin.refused("take(1), it was", Twin.BUSY, y -> y.take(1), NO);
        Twin.refused("take(0), its LEASE has not begun", Twin.TOLD, y -> y.take(0), NO);
        Twin.refused("take(0), its LEASE is ENDED", Twin.ENDED, y -> y.take(0), NO);
        is("take(0), TERM will be 72", term60().take(0), 12);
        Twin.refused("take(1), TERM would be 73", CallBounds::term60, y -> y.take(1), NO);
    }

    private static void promise17() {
        Sentences.in("Promise 17");
        says("A PART is given back: its GAIN;");
        is("part(0, 1)", plain().part(0, 1), 1);
        is("part(0, 333)", plain().part(0, 333), 333 - 318);
        is("part(0, 999)", plain().part(0, 999), 999 - 954);
        says("Long.MIN_VALUE: no such ones.");
        Twin.leases("part(.., 1)", CallBounds::four, (y, i) -> y.part(i, 1), NO);
        Twin.bounds("part(0, ..)", Twin.BUSY, (y, p) -> y.part(0, p), NO, 1, 999);
        Twin.refused("part(0, 5), not begun", Twin.TOLD, y -> y.part(0, 5), NO);
        Twin.refused("part(0, 5), ENDED", Twin.ENDED, y -> y.part(0, 5), NO);
    }

    private static void promise18() {
        Sentences.in("Promise 18");
        says("ENDED: its GAIN;");
        is("end(0)", plain().end(0), 45);
        says("Long.MIN_VALUE: no such one.");
        Twin.leases("end", CallBounds::four, (y, i) -> y.end(i), NO);
        Twin.refused("end(0), not begun", Twin.TOLD, y -> y.end(0), NO);
        Twin.refused("end(0), ENDED", Twin.ENDED, y -> y.end(0), NO);
        Twin.refused("end(1), ENDED by call", Twin.ENDED, y -> y.end(1), NO);
    }

    private static void promise19() {
        Sentences.in("Promise 19");
        says("USED of a LEASE is written down by v 1 .. USED: USED then;");
        is("down(0, 1)", plain().down(0, 1), 954);
        is("down(0, 954)", plain().down(0, 954), 1);
        is("down(0, 955)", plain().down(0, 955), 0);
        says("Long.MIN_VALUE: no such ones.");
        Twin.leases("down(.., 1)", CallBounds::four, (y, i) -> y.down(i, 1), NO);
        Twin.bounds("down(0, ..)", CallBounds::plain, (y, v) -> y.down(0, v), NO, 1, 955);
        for (long v : new long[] {Long.MIN_VALUE, Long.MAX_VALUE, (1L << 32) + 1, 1L << 42, (1L << 62) + 955, -(1L << 40) + 5}) {
            Twin.refused("down(0, " + v + ")", CallBounds::plain, y -> y.down(0, v), NO);
        }
        Twin.refused("down(0, 1), USED is 0", CallBounds::nothingUsed, y -> y.down(0, 1), NO);
        Twin.refused("down(0, 0), USED is 0", CallBounds::nothingUsed, y -> y.down(0, 0), NO);
        Twin.refused("down(0, 1), not begun", Twin.TOLD, y -> y.down(0, 1), NO);
        Twin.refused("down(0, 1), ENDED", Twin.ENDED, y -> y.down(0, 1), NO);
    }

    private static LeaseLedger nothingUsed() {
        LeaseLedger x = plain();
        x.down(0, 955);
        return x;
    }

    private static void promise20() {
        Sentences.in("Promise 20");
        says("A payment of own period k is put off to j, both left, k below j: by how much OWED is more (below 0: less);");
        is("putOff(0, 3, 4)", putOffs().putOff(0, 3, 4), 0);
        is("putOff(0, 3, 6)", putOffs().putOff(0, 3, 6), 0);
        is("putOff(0, 5, 6)", putOffs().putOff(0, 5, 6), 0);
        LeaseLedger x = Check.told("lease a 0 4 100000;pay a 1 4 1000;");
        x.go(1);
        is("putOff(0, 2, 4)", x.putOff(0, 2, 4), 2329 - 2486);
        LeaseLedger y = Check.told("lease a 0 3 200000;");
        y.go(1);
        is("putOff(0, 2, 3) of nothing", y.putOff(0, 2, 3), 0);
        says("Long.MIN_VALUE: no such ones.");
        Twin.leases("putOff(.., 2, 3)", CallBounds::four, (z, i) -> z.putOff(i, 2, 3), NO);
        Twin.bounds("putOff(0, .., 6)", CallBounds::putOffs, (z, k) -> z.putOff(0, k, 6), NO, 3, 5);
        Twin.bounds("putOff(0, 3, ..)", CallBounds::putOffs, (z, j) -> z.putOff(0, 3, j), NO, 4, 6);
        Twin.refused("putOff(0, 2, 4), k has gone by", CallBounds::putOffs, z -> z.putOff(0, 2, 4), NO);
        Twin.refused("putOff(0, 1, 2), both have gone by", CallBounds::putOffs, z -> z.putOff(0, 1, 2), NO);
        Twin.refused("putOff(0, 6, 6)", CallBounds::putOffs, z -> z.putOff(0, 6, 6), NO);
        Twin.refused("putOff(0, 6, 7)", CallBounds::putOffs, z -> z.putOff(0, 6, 7), NO);
        Twin.refused("putOff(0, 7, 8)", CallBounds::putOffs, z -> z.putOff(0, 7, 8), NO);
        Twin.refused("putOff(0, 5, 4)", CallBounds::putOffs, z -> z.putOff(0, 5, 4), NO);
        Twin.refused("putOff of the outmost ints", CallBounds::putOffs, z -> z.putOff(0, MIN_VALUE, MAX_VALUE), NO);
        Twin.refused("putOff(0, 1, 2), not begun", Twin.TOLD, z -> z.putOff(0, 1, 2), NO);
        Twin.refused("putOff(1, 12, 13), ENDED", Twin.ENDED, z -> z.putOff(1, 12, 13), NO);
    }

    /** Of six own periods two have gone by. */
    private static LeaseLedger putOffs() {
        LeaseLedger x = Check.told("lease a 0 6 0;pay a 1 6 5;");
        x.go(2);
        return x;
    }

    private static void promise21() {
        Sentences.in("Promise 21");
        says("The INDEX becomes so: what it was;");
        LeaseLedger x = new LeaseLedger();
        is("become(500)", x.become(500), 1000);
        is("become(2000)", x.become(2000), 500);
        is("become(2000) again", x.become(2000), 2000);
        is("index(0)", x.index(0), 2000);
        is("count(6)", x.count(6), 3);
        says("NONE: not 500 .. 2000.");
        Twin.bounds("become", Twin.BUSY, (y, index) -> y.become(index), -1, 500, 2000);
        Twin.bounds("become of a new object", Twin.NEW, (y, index) -> y.become(index), -1, 500, 2000);
        Twin.bounds("become in PERIOD 99", Twin.LATE, (y, index) -> y.become(index), -1, 500, 2000);
    }

    private static void promise22() {
        Sentences.in("Promise 22");
        says("AS IT GOES, in n 0 .. 72 PERIODS (no more than come, up to PERIOD 99), of a LEASE what 0 OWED, 1 USED,"
            + " 2 what it paid in these (without fee), 3 its INTEREST in these;");
        LeaseLedger x = Check.told(PLAIN + "fee a 45;");
        long[][] due = {{0, 0, 0, 0}, {1000, 977, 1100, 191}, {0, 0, 2200, 291}, {0, 0, 2200, 291}};
        int[] ns = {0, 1, 2, 72};
        for (int i = 0; i < 4; i++) {
            for (int what = 0; what < 4; what++) {
                is("plan(0, " + ns[i] + ", " + what + ")", x.plan(0, ns[i], what), due[i][what]);
            }
        }
        x.go(1);
        is("plan(0, 0, 2), in these", x.plan(0, 0, 2), 0);
        is("plan(0, 72, 2)", x.plan(0, 72, 2), 1100);
        is("plan(0, 72, 3)", x.plan(0, 72, 3), 100);
        LeaseLedger late = longest();
        is("PERIOD 65: OWED", late.amount(0, 0), 27);
        is("plan(0, 26, 0)", late.plan(0, 26, 0), 1);
        is("plan(0, 27, 0)", late.plan(0, 27, 0), 0);
        is("plan(0, 72, 2)", late.plan(0, 72, 2), 27);
        late.undo();
        is("PERIOD 64: plan(0, 72, 2)", late.plan(0, 72, 2), 28);
        is("PERIOD 99: plan(0, 72, 0)", Twin.LATE.get().plan(0, 72, 0), 0);
        LeaseLedger y = CallBounds.inPeriod("lease a 20 48 0;pay a 1 48 1;", 66);
        y.extend(0, 24);
        is("up to PERIOD 99, 33 PERIODS come: plan(0, 33, 2)", y.plan(0, 33, 2), 26);
        LeaseLedger t = Check.told("lease t 0 4 0;pay t 1 4 1001;tied t;index 1 1500;index 2 2000;index 3 1000;");
        t.go(2);
        is("INDEXED from SETTING: plan(0, 1, 0)", t.plan(0, 1, 0), 2002);
        is("plan(0, 1, 2)", t.plan(0, 1, 2), 2002);
        is("plan(0, 2, 2)", t.plan(0, 2, 2), 2002 + 1001);
        says("NONE: no such ones.");
        Twin.leases("plan(.., 1, 0)", CallBounds::four, (z, i) -> z.plan(i, 1, 0), -1);
        Twin.bounds("plan(0, .., 0)", Twin.BUSY, (z, n) -> z.plan(0, n, 0), -1, 0, 72);
        Twin.bounds("plan(0, .., 0) in PERIOD 99", Twin.LATE, (z, n) -> z.plan(0, n, 0), -1, 0, 72);
        Twin.bounds("plan(0, 5, ..)", Twin.BUSY, (z, what) -> z.plan(0, 5, what), -1, 0, 3);
    }

    /** Own period 72 is PERIOD 91; in PERIOD 65 it has 27 of them left. */
    static LeaseLedger longest() {
        LeaseLedger x = inPeriod("lease a 20 48 0;pay a 1 48 1;", 21);
        x.extend(0, 24);
        x.go(12);
        x.go(12);
        x.go(12);
        x.go(8);
        return x;
    }

    private static void promise23() {
        Sentences.in("Promise 23");
        says("AS IT GOES all OWED in n 0 .. 72 PERIODS (no more than come);");
        LeaseLedger x = Check.told("lease a 0 3 0;pay a 1 3 10;lease b 2 2 0;pay b 1 2 100;");
        long[] due = {0, 20, 10, 100, 0};
        for (int n = 0; n < due.length; n++) {
            is("all(" + n + ")", x.all(n), due[n]);
        }
        is("all(72)", x.all(72), 0);
        is("PERIOD 65: all(0)", longest().all(0), 27);
        is("all(26)", longest().all(26), 1);
        is("all(72)", longest().all(72), 0);
        // The latest that a LEASE can be: it begins in 20 and has 72 own periods, so PERIOD 91 is its last one.
        LeaseLedger y = longest();
        y.go(12);
        y.go(12);
        is("PERIOD 89: all(2)", y.all(2), 1);
        is("all(3)", y.all(3), 0);
        is("all(11), no more than ten come", y.all(11), 0);
        is("PERIOD 99: all(0)", Twin.LATE.get().all(0), 0);
        is("PERIOD 99: all(72)", Twin.LATE.get().all(72), 0);
        says("NONE: no such n.");
        Twin.bounds("all", Twin.BUSY, (z, n) -> z.all(n), -1, 0, 72);
        Twin.bounds("all in PERIOD 99", Twin.LATE, (z, n) -> z.all(n), -1, 0, 72);
        Twin.bounds("all of a new object", Twin.NEW, (z, n) -> z.all(n), -1, 0, 72);
    }

    private static void promise24() {
        Sentences.in("Promise 24");
        says("Of a LEASE, what 0 OWED less what is OWED AS IT GOES in 12 PERIODS (no more than come), 1 that;");
        LeaseLedger x = Check.told("lease a 0 20 0;pay a 1 20 10;fee a 99;");
        is("not begun: soon(0, 0)", x.soon(0, 0), -80);
        is("soon(0, 1)", x.soon(0, 1), 80);
        x.go(1);
        is("soon(0, 0)", x.soon(0, 0), 120);
        is("soon(0, 1)", x.soon(0, 1), 70);
        x.go(12);
        is("soon(0, 0)", x.soon(0, 0), 70);
        is("soon(0, 1)", x.soon(0, 1), 0);
        is("PERIOD 99: soon(0, 0)", Twin.LATE.get().soon(0, 0), 0);
        says("NONE: no such ones.");
        Twin.leases("soon(.., 1)", CallBounds::four, (y, i) -> y.soon(i, 1), -1);
        Twin.bounds("soon(0, ..)", Twin.BUSY, (y, what) -> y.soon(0, what), -1, 0, 1);
    }

    private static void promise25() {
        Sentences.in("Promise 25");
        says("All that ENTRIES of a sort 0 .. 5 that are kept put on an ACCOUNT;");
        LeaseLedger x = Check.told("lease a 0 24 0;pay a 1 24 10;lease b 0 30 0;pay b 1 30 1;fee b 5;");
        is("sum(0, 0), no ENTRIES", x.sum(0, 0), 0);
        x.go(12);
        is("sum(0, 0)", x.sum(0, 0), -5);
        is("sum(2, 0)", x.sum(2, 0), 275);
        is("sum(0, 1)", x.sum(0, 1), -132);
        x.go(7);
        is("40 ENTRIES: sum(0, 0)", x.sum(0, 0), -5);
        is("sum(0, 1)", x.sum(0, 1), -19 * 11);
        x.down(0, 1);
        is("41 ENTRIES: sum(1, 0), the first is no longer kept", x.sum(1, 0), -30);
        is("sum(5, 5)", x.sum(5, 5), 1);
        says("Long.MIN_VALUE: no such ones.");
        Twin.bounds("sum(.., 1)", Twin.BUSY, (y, account) -> y.sum(account, 1), NO, 0, 5);
        Twin.bounds("sum(1, ..)", Twin.BUSY, (y, sort) -> y.sum(1, sort), NO, 0, 5);
        Twin.bounds("sum(.., 0) of a new object", Twin.NEW, (y, account) -> y.sum(account, 0), NO, 0, 5);
    }

    private static void promise26() {
        Sentences.in("Promise 26");
        says("Of a LEASE, what 0 OWED as it began (0: it has not), 1 all INTEREST so far, 2 all it paid so far (without fee),"
            + " 3 by how much OWED became more in all when it was RE-MEASURED, 4 by how much it became less by PARTS, by its END in all;");
        LeaseLedger x = Check.told(PLAIN + "fee a 45;");
        for (int what = 0; what < 5; what++) {
            is("not begun: moved(0, " + what + ")", x.moved(0, what), 0);
        }
        x.go(1);
        is("moved(0, 0)", x.moved(0, 0), 1909);
        is("moved(0, 1)", x.moved(0, 1), 191);
        is("moved(0, 2)", x.moved(0, 2), 1100);
        x.rate(0, 0);
        is("moved(0, 3)", x.moved(0, 3), 100);
        x.rate(0, 200000);
        is("moved(0, 3)", x.moved(0, 3), -83);
        x.part(0, 500);
        is("moved(0, 4)", x.moved(0, 4), 458);
        x.end(0);
        is("moved(0, 4)", x.moved(0, 4), 917);
        is("ENDED: moved(0, 0)", x.moved(0, 0), 1909);
        LeaseLedger y = plain();
        y.go(1);
        is("its last own period: moved(0, 1)", y.moved(0, 1), 291);
        is("moved(0, 2)", y.moved(0, 2), 2200);
        is("moved(0, 4)", y.moved(0, 4), 0);
        says("Long.MIN_VALUE: no such ones.");
        Twin.leases("moved(.., 0)", CallBounds::four, (z, i) -> z.moved(i, 0), NO);
        Twin.bounds("moved(0, ..)", Twin.BUSY, (z, what) -> z.moved(0, what), NO, 0, 4);
    }
}
