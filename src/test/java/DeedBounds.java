import java.util.ArrayList;
import java.util.List;

/** The bounds that the document's Terms 3 and 4 name: deeds by call, chance, undoing, images, refusals. */
final class DeedBounds {
    private static final long NO = Check.NO;
    private static final String PLAIN = "lease a 0 2 100000;pay a 1 2 1100;";
    private static final String TIED = "lease t 0 4 0;pay t 1 4 1001;tied t;option t 2 101;option t 1 1;";

    private DeedBounds() {
    }

    static void run() {
        Sentences.in("Terms");
        running();
        rateOtherwise();
        periodsMore();
        optionTaken();
        partGivenBack();
        allEnded();
        writtenDown();
        putOff();
        indexBecomes();
        term72();
        gainAccount();
        journal40();
        asItGoes();
        draw();
        byChance();
        undone();
        undone20();
        image();
        periods99();
        noneAhead();
        exceptionsAhead();
        refusedChangesNothing();
    }

    private static void says(String words) {
        Sentences.says(words);
    }

    private static void is(String call, long got, long want) {
        Sentences.is(call, got, want);
    }

    private static LeaseLedger begun(String text) {
        LeaseLedger x = Check.told(text);
        x.go(1);
        return x;
    }

    private static void entry(LeaseLedger x, int k, long... due) {
        int[] whats = {0, 1, 2, 10, 11, 12, 13, 14, 15};
        for (int i = 0; i < due.length; i++) {
            is("entry(" + k + ", " + whats[i] + ")", x.entry(k, whats[i]), due[i]);
        }
    }

    /** All deeds on a LEASE, with arguments that are taken of the rich text's leases 0 and 1. */
    private static final Twin.CallOf[] DEEDS = {(x, i) -> x.rate(i, 7), (x, i) -> x.extend(i, 1), (x, i) -> x.take(2 * i),
        (x, i) -> x.part(i, 1), (x, i) -> x.end(i), (x, i) -> x.down(i, 1), (x, i) -> x.putOff(i, 4, 5)};
    private static final String[] DEED_NAMES = {"rate", "extend", "take", "part", "end", "down", "putOff"};

    private static void running() {
        says("By call, of a LEASE that has begun and is not ENDED:");
        for (int i = 0; i < DEEDS.length; i++) {
            Twin.CallOf deed = DEEDS[i];
            String name = DEED_NAMES[i];
            Twin.refused(name + " of one that has not begun", Twin.TOLD, x -> deed.of(x, 0), NO);
            Twin.refused(name + " of one that is ENDED behind its last own period", Twin.ENDED, x -> deed.of(x, 0), NO);
            Twin.refused(name + " of one that is ENDED by call", Twin.ENDED, x -> deed.of(x, 1), NO);
            Sentences.holds(name + " of one that has begun", deed.of(Twin.BEGUN.get(), 0) != NO);
            LeaseLedger last = Twin.BEGUN.get();
            last.go(7);
            is("one own period is left", Check.lease(last, 0, 4), 1);
            Sentences.holds(name + " in its last own period", name.equals("putOff") || deed.of(last, 0) != NO);
        }
    }

    private static void rateOtherwise() {
        says("RATE otherwise, then RE-MEASURED.");
        LeaseLedger x = begun(PLAIN);
        is("rate(0, 200000)", x.rate(0, 200000), 917 - 1000);
        entry(x, 0, 2, 1, 0, 0, 83, -83, 0, 0, 0);
        x.go(1);
        is("INTEREST of the last own period", x.entry(0, 13), 1100 - 917);
        LeaseLedger y = begun("lease a 0 3 0;pay a 3 3 1000;");
        y.rate(0, 200000);
        y.go(1);
        is("INTEREST of 694 by the new RATE", y.entry(0, 13), 139);
    }

    private static void periodsMore() {
        says("n 1 .. 24 periods more, each with the last own one's DUE (its SETTING likewise), then RE-MEASURED.");
        LeaseLedger x = begun("lease a 0 2 0;pay a 1 2 7;pay a 3 48 900;");
        is("extend(0, 24)", x.extend(0, 24), 24 * 7);
        is("TERM", Check.lease(x, 0, 1), 26);
        is("due(0, 3), as the last own one", x.due(0, 3), 7);
        is("due(0, 26)", x.due(0, 26), 7);
        is("due(0, 27)", x.due(0, 27), -1);
        entry(x, 0, 2, 1, 0, 0, -168, 168, 0, 0, 0);
        is("extend(0, 1)", x.extend(0, 1), 7);
        is("TERM", Check.lease(x, 0, 1), 27);
        LeaseLedger t = begun(TIED);
        t.become(1500);
        t.go(1);
        is("extend(0, 2): its DUE is INDEXED", t.extend(0, 2), 2 * 1501);
        is("due(0, 6)", t.due(0, 6), 1501);
        t.become(2000);
        t.go(1);
        is("its SETTING is as TOLD: due(0, 6)", t.due(0, 6), 2002);
    }

    private static void optionTaken() {
        says("An option taken (once): as many more, DUE and SETTING as it tells (tied: all that is left is INDEXED), then RE-MEASURED.");
        LeaseLedger x = begun(PLAIN + "option a 2 500;option a 24 99999;");
        is("take(0)", x.take(0), 789);
        is("TERM", Check.lease(x, 0, 1), 4);
        is("due(0, 3)", x.due(0, 3), 500);
        is("due(0, 4)", x.due(0, 4), 500);
        entry(x, 0, 2, 1, 0, 0, -789, 789, 0, 0, 0);
        Twin.refused("take(0) again", DeedBounds::taken, y -> y.take(0), NO);
        LeaseLedger again = taken();
        again.undo();
        is("take(0), the first was undone", again.take(0), 789);
        LeaseLedger t = begun(TIED);
        t.become(1500);
        is("take(0)", t.take(0), 3 * 1501 + 2 * 151 - 3 * 1001);
        is("due(0, 1), gone by", t.due(0, 1), 1001);
        is("due(0, 2)", t.due(0, 2), 1501);
        is("due(0, 6): 151.5", t.due(0, 6), 151);
        is("ENTRIES", t.count(4), 3);
        t.become(2000);
        t.go(1);
        is("its SETTING is as told: due(0, 6)", t.due(0, 6), 202);
    }

    private static LeaseLedger taken() {
        LeaseLedger x = begun(PLAIN + "option a 2 500;");
        x.take(0);
        return x;
    }

    private static void partGivenBack() {
        says("A PART p 1 .. 999 of a thousand is given back: OWED less OWED times p by 1000, downwards, USED likewise;"
            + " GAIN what OWED is less by, less what USED is;");
        // 999 OWED and USED 1998 less 999: one of a thousand is 0.999 of each.
        LeaseLedger x = begun("lease a 0 2 0;pay a 1 2 999;");
        is("part(0, 1) of 999", x.part(0, 1), 0);
        entry(x, 0, 3, 1, 0, 0, 0, 0, 0, 0, 0);
        is("OWED", x.amount(0, 0), 999);
        is("part(0, 2): 1.998", x.part(0, 2), 0);
        entry(x, 0, 3, 1, 0, 0, 1, -1, 0, 0, 0);
        LeaseLedger y = begun("lease a 0 2 0;pay a 1 2 1000;fee a 500;");
        is("part(0, 1): 1 and 1.25", y.part(0, 1), 0);
        is("part(0, 999): 998.001 and 1247.751", y.part(0, 999), 998 - 1247);
        entry(y, 0, 3, 1, 0, 0, 998, -1247, 0, 0, 249);
        is("OWED", y.amount(0, 0), 1);
        is("USED", y.amount(0, 1), 2);
        says("DUE and SETTING of all own periods left times (1000 less p) by 1000, downwards. ENTRY 3.");
        LeaseLedger t = begun("lease t 0 5 0;pay t 1 3 1000;pay t 4 4 1;pay t 5 5 999;tied t;");
        t.part(0, 1);
        is("gone by", t.due(0, 1), 1000);
        is("1000", t.due(0, 2), 999);
        is("0.999", t.due(0, 4), 0);
        is("998.001", t.due(0, 5), 998);
        is("ENTRIES", t.count(4), 3);
        t.part(0, 999);
        is("0.999", t.due(0, 2), 0);
        t.become(2000);
        t.go(1);
        is("SETTING is 0, too", t.due(0, 3), 0);
        LeaseLedger v = begun("lease t 0 4 0;pay t 1 4 1001;tied t;");
        v.become(1500);
        v.go(1);
        v.part(0, 500);
        is("DUE is INDEXED: 750.5", v.due(0, 3), 750);
        v.become(1000);
        v.go(1);
        is("SETTING is 500.5, downwards", v.due(0, 3), 500);
        LeaseLedger u = begun("lease t 0 3 0;pay t 1 3 1001;tied t;");
        u.part(0, 500);
        u.become(2000);
        u.go(1);
        is("SETTING is 500, not 500.5", u.due(0, 3), 1000);
    }

    private static void allEnded() {
        says("ENDED: OWED, USED 0; GAIN likewise. ENTRY 4.");
        LeaseLedger x = begun(PLAIN);
        is("end(0)", x.end(0), 45);
        entry(x, 0, 4, 1, 0, 0, 1000, -955, 0, 0, -45);
        is("OWED", x.amount(0, 0), 0);
        is("USED", x.amount(0, 1), 0);
        is("lease(0, 3)", Check.lease(x, 0, 3), 2);
        LeaseLedger y = begun("lease a 0 2 0;fee a 3;");
        is("end(0), a loss", y.end(0), -2);
        entry(y, 0, 4, 1, 0, 0, 0, -2, 0, 0, 2);
        LeaseLedger z = begun("lease a 0 2 0;");
        is("end(0), nothing is OWED", z.end(0), 0);
        entry(z, 0, 4, 1, 0, 0, 0, 0, 0, 0, 0);
    }

    private static void writtenDown() {
        says("USED is written down: it is less, account GAIN more by as much. ENTRY 5.");
        LeaseLedger x = begun(PLAIN);
        is("down(0, 1)", x.down(0, 1), 954);
        entry(x, 0, 5, 1, 0, 0, 0, -1, 0, 0, 1);
        is("account GAIN", x.account(5), 1);
        is("down(0, 954)", x.down(0, 954), 0);
        entry(x, 0, 5, 1, 0, 0, 0, -954, 0, 0, 954);
        is("account GAIN", x.account(5), 955);
        is("OWED", x.amount(0, 0), 1000);
    }

    private static void putOff() {
        says("A payment is put off: DUE and SETTING of one own period that is left come to those of a later one (they are 0 there then), then RE-MEASURED.");
        LeaseLedger x = begun("lease a 0 4 100000;pay a 1 4 1000;");
        is("putOff(0, 2, 4)", x.putOff(0, 2, 4), 2329 - 2486);
        long[] due = {1000, 0, 1000, 2000};
        for (int k = 1; k <= 4; k++) {
            is("due(0, " + k + ")", x.due(0, k), due[k - 1]);
        }
        entry(x, 0, 2, 1, 0, 0, 157, -157, 0, 0, 0);
        is("putOff(0, 2, 3) of nothing", x.putOff(0, 2, 3), 0);
        LeaseLedger t = begun(TIED);
        t.putOff(0, 2, 4);
        t.become(2000);
        t.go(1);
        is("SETTING there", t.due(0, 2), 0);
        is("SETTING of the later one", t.due(0, 4), 4004);
    }

    private static void indexBecomes() {
        says("The INDEX is another one, 500 .. 2000, from this PERIOD on till one that was told for a later one (no ENTRY).");
        LeaseLedger x = Check.told("index 2 600;index 3 700;index 90 800;");
        x.go(1);
        x.become(500);
        long[] then = {1000, 500, 600, 700};
        for (int period = 0; period < 4; period++) {
            is("become(500), index(" + period + ")", x.index(period), then[period]);
        }
        x.go(1);
        x.become(2000);
        is("told for this one: index(2)", x.index(2), 2000);
        is("told for the next one: index(3)", x.index(3), 700);
        x.go(1);
        x.become(1500);
        is("index(2), gone by", x.index(2), 2000);
        is("index(3)", x.index(3), 1500);
        is("index(89)", x.index(89), 1500);
        is("index(90)", x.index(90), 800);
        is("index(99)", x.index(99), 800);
        is("ENTRIES", x.count(4), 0);
        LeaseLedger y = Twin.LATE.get();
        is("PERIOD 99: become(777)", y.become(777), 1500);
        is("PERIOD 99: index(99)", y.index(99), 777);
        is("index(98)", y.index(98), 1500);
    }

    private static LeaseLedger term(int term) {
        LeaseLedger x = begun("lease a 0 48 0;pay a 1 48 5;option a 1 9;option a 2 9;");
        for (int more = term - 48; more > 0; more -= 24) {
            x.extend(0, Math.min(more, 24));
        }
        return x;
    }

    private static void term72() {
        says("TERM is 72 at most.");
        is("extend(0, 24) of 48", term(48).extend(0, 24), 24 * 5);
        is("extend(0, 1) of 71", term(71).extend(0, 1), 5);
        is("take(0) of 71", term(71).take(0), 9);
        Twin.refused("extend(0, 24) of 49", () -> term(49), x -> x.extend(0, 24), NO);
        Twin.refused("extend(0, 2) of 71", () -> term(71), x -> x.extend(0, 2), NO);
        Twin.refused("take(1) of 71", () -> term(71), x -> x.take(1), NO);
        Twin.refused("extend(0, 1) of 72", () -> term(72), x -> x.extend(0, 1), NO);
        Twin.refused("take(0) of 72", () -> term(72), x -> x.take(0), NO);
        LeaseLedger x = term(72);
        is("due(0, 72)", x.due(0, 72), 5);
        is("due(0, 73)", x.due(0, 73), -1);
        is("OWED", x.amount(0, 0), 71 * 5);
        for (int i = 0; i < 5; i++) {
            x.go(12);
        }
        x.go(10);
        is("its last own period is left", Check.lease(x, 0, 4), 1);
        x.go(1);
        is("it is ENDED", Check.lease(x, 0, 3), 2);
    }

    private static void gainAccount() {
        says("GAIN on account 5: a gain makes it less, a loss more.");
        LeaseLedger x = begun(PLAIN);
        is("part(0, 333), a gain", x.part(0, 333), 15);
        is("account(5)", x.account(5), -15);
        LeaseLedger y = begun("lease a 0 2 0;pay a 1 2 100;fee a 100;");
        is("part(0, 500), a loss", y.part(0, 500), -25);
        is("account(5)", y.account(5), 25);
    }

    private static void journal40() {
        says("The JOURNAL keeps the latest 40 ENTRIES.");
        LeaseLedger x = begun("lease a 0 48 0;pay a 1 48 1;");
        for (int i = 3; i <= 39; i++) {
            x.rate(0, i);
        }
        is("39: count(3)", x.count(3), 39);
        is("entry(38, 0)", x.entry(38, 0), 0);
        is("entry(39, 0)", x.entry(39, 0), NO);
        x.rate(0, 40);
        is("40: count(3)", x.count(3), 40);
        is("entry(39, 0), the first one", x.entry(39, 0), 0);
        is("latest(0, 0)", x.latest(0, 0), 0);
        is("sum(1, 0)", x.sum(1, 0), -48);
        x.rate(0, 41);
        is("41: count(3)", x.count(3), 40);
        is("count(4)", x.count(4), 41);
        is("entry(39, 0), the second one", x.entry(39, 0), 1);
        is("entry(40, 0)", x.entry(40, 0), NO);
        is("latest(0, 0)", x.latest(0, 0), -2);
        is("sum(1, 0)", x.sum(1, 0), 0);
        is("the ACCOUNTS have all of them", x.account(1), -x.amount(0, 0));
        entry(x, 0, 2, 1, 0, 0, 0, 0, 0, 0, 0);
        x.rate(0, 42);
        entry(x, 0, 2, 1, 0, 0, 0, 0, 0, 0, 0);
        is("42: entry(39, 0)", x.entry(39, 0), 2);
        is("latest(0, 1)", x.latest(0, 1), -2);
        for (int i = 0; i < 81; i++) {
            x.rate(0, i);
        }
        is("count(3)", x.count(3), 40);
        is("count(4)", x.count(4), 123);
        x.undo();
        is("undone: count(3)", x.count(3), 40);
        is("undone: count(4)", x.count(4), 122);
    }

    private static void asItGoes() {
        says("AS IT GOES: PERIODS go by, nothing by call.");
        LeaseLedger x = Twin.BUSY.get();
        LeaseLedger y = Twin.BUSY.get();
        y.go(5);
        for (int lease = 0; lease < 4; lease++) {
            is("plan(" + lease + ", 5, 0)", x.plan(lease, 5, 0), y.amount(lease, 0));
            is("plan(" + lease + ", 5, 1)", x.plan(lease, 5, 1), y.amount(lease, 1));
        }
        Twin.leaves("plan", Twin.BUSY, z -> z.plan(0, 72, 3));
        Twin.leaves("all", Twin.BUSY, z -> z.all(72));
        Twin.leaves("soon", Twin.BUSY, z -> z.soon(1, 0));
        Twin.leaves("peak", Twin.BUSY, z -> z.peak(1));
        Twin.leaves("half", Twin.BUSY, z -> z.half(1));
        Twin.leaves("cash", Twin.BUSY, z -> z.cash(0, 71));
    }

    /** In 12 PERIODS by chance: a payment of 99999 in the own period behind them, by the last INDEX and the first. */
    private static long chanceEnd(int[] draws, int from, int index) {
        int now = index;
        int base = 0;
        for (int i = 0; i < 12; i++) {
            now = Math.max(500, Math.min(2000, now + draws[from + i] - 10));
            base = i == 0 ? now : base;
        }
        return 99999L * now / base;
    }

    private static final String BY_INDEX = "lease t 0 13 0;pay t 13 13 99999;tied t;";

    private static void draw() {
        says("DRAW: the last number (at first the seed) times 1103515245, and 12345 more, without what is above 31 bits, is the next one;"
            + " this by 65536, rounded down, modulo what is said, is drawn.");
        LeaseLedger x = Check.told(BY_INDEX);
        long[] seeds = {0, 1, 2, 65535, 65536, 99999, 1103515245, 1073741823, 1073741824, 2147483646, 2147483647};
        for (long seed : seeds) {
            int[] draws = TermBounds.drawn(seed, 12, 21);
            is("chance(" + seed + ", 1, 0)", x.chance((int) seed, 1, 0), chanceEnd(draws, 0, 1000));
        }
        // By hand: 1 gives 1103527590, by 65536 16838, modulo 21 17.
        is("the first draw from 1 on", TermBounds.drawn(1, 1, 21)[0], 17);
    }

    private static void byChance() {
        says("BY CHANCE: n times, from now on: 12 PERIODS, ahead of each the INDEX becomes what it is in it and a DRAW modulo 21 less 10, held to 500 .. 2000 (as by call).");
        for (int seed = 0; seed < 20; seed++) {
            int[] draws = TermBounds.drawn(seed, 120, 21);
            for (int index : new int[] {1000, 500, 509, 1991, 2000}) {
                LeaseLedger x = Check.told("index 0 " + index + ";" + BY_INDEX);
                long together = 0;
                for (int n = 1; n <= 10; n++) {
                    together += chanceEnd(draws, 12 * (n - 1), index);
                    is("chance(" + seed + ", " + n + ", 0) from " + index, x.chance(seed, n, 0), together);
                }
            }
        }
        // What was told for a later PERIOD counts from then on, as by call.
        int[] draws = TermBounds.drawn(3, 12, 21);
        LeaseLedger x = Check.told("index 11 2000;" + BY_INDEX);
        long end = 99999L * Math.min(2000, 2000 + draws[11] - 10) / (1000 + draws[0] - 10);
        is("chance(3, 1, 0), index 11 2000", x.chance(3, 1, 0), end);
        Twin.leaves("chance", Twin.BUSY, y -> y.chance(-1, 10, 0));
    }

    /** Every deed that can be undone, on the ledger with a LEASE that runs. */
    private static final Twin.Call[] UNDONE = {x -> x.go(1), x -> x.rate(0, 7), x -> x.extend(1, 2), x -> x.take(2), x -> x.part(1, 7),
        x -> x.end(1), x -> x.down(0, 7), x -> x.putOff(1, 20, 30), x -> x.become(1777)};

    private static void undone() {
        says("All by call in 3, and each PERIOD, can be undone, the latest first");
        for (int i = 0; i < UNDONE.length; i++) {
            Twin.Call deed = UNDONE[i];
            LeaseLedger x = Twin.INDEXED.get();
            deed.of(x);
            is("deed " + i + ", count(6)", x.count(6), 5);
            is("deed " + i + ", undo()", x.undo(), 4);
            Twin.leaves("deed " + i + " and undo(), INDEXED ahead of it", Twin.INDEXED, y -> deed.of(y) + y.undo());
            Twin.leaves("deed " + i + " and undo(), the JOURNAL is full", Twin.FULL, y -> deed.of(y) + y.undo());
        }
        LeaseLedger late = Twin.LATE.get();
        is("become(777) in PERIOD 99", late.become(777), 1500);
        late.undo();
        is("undone: index(99)", late.index(99), 1500);
        LeaseLedger x = Twin.BEGUN.get();
        x.go(3);
        is("go(3), count(6)", x.count(6), 4);
        for (int period = 3; period >= 0; period--) {
            is("undo()", x.undo(), period);
            is("count(2)", x.count(2), period);
        }
        Twin.leaves("go(12) and twelve times undo()", Twin.BEGUN, y -> {
            y.go(12);
            for (int i = 0; i < 12; i++) {
                y.undo();
            }
            return 0;
        });
    }

    private static void undone20() {
        says("(20 at most).");
        LeaseLedger x = begun("lease a 0 48 0;pay a 1 48 1;");
        for (int i = 2; i <= 19; i++) {
            x.rate(0, i);
        }
        is("19: count(6)", x.count(6), 19);
        x.rate(0, 20);
        is("20: count(6)", x.count(6), 20);
        x.rate(0, 21);
        is("21: count(6)", x.count(6), 20);
        for (int left = 19; left >= 0; left--) {
            is("undo()", x.undo(), left);
            is("RATE", Check.lease(x, 0, 2), left == 0 ? 0 : left + 1);
        }
        is("undo(), the first deed can't be any more", x.undo(), -1);
        is("count(2)", x.count(2), 1);
        LeaseLedger y = Check.told("lease a 0 48 0;");
        y.go(12);
        y.go(9);
        is("21 PERIODS: count(6)", y.count(6), 20);
        for (int left = 19; left >= 0; left--) {
            is("undo()", y.undo(), left);
        }
        is("count(2)", y.count(2), 1);
        y.go(12);
        is("count(6) when deeds come again", y.count(6), 12);
        is("undo()", y.undo(), 11);
    }

    private static void image() {
        says("An IMAGE keeps all but the TAPE, the FAULT, what can be undone.");
        List<Long> was = Probe.of(DeedBounds::kept);
        List<Long> then = Probe.of(DeedBounds::cameBack);
        is("back(): the first thing that is another one", Probe.firstDifference(was, then), -1);
        List<Long> full = Probe.of(DeedBounds::keptFull);
        List<Long> fullThen = Probe.of(DeedBounds::cameBackFull);
        is("back(), the JOURNAL is full: the first thing that is another one", Probe.firstDifference(full, fullThen), -1);
        LeaseLedger late = Twin.LATE.get();
        late.undo();
        late.keep();
        late.become(777);
        late.go(1);
        late.become(888);
        is("back() to PERIOD 98", late.back(), 98);
        is("index(98)", late.index(98), 1500);
        is("index(99)", late.index(99), 1500);
        LeaseLedger x = kept();
        x.go(1);
        Check.tell(x, "seed 1;Q");
        x.feed(1, 2, 3, 4, 5);
        x.back();
        is("count(7), the TAPE stays", x.count(7), 20);
        is("fault(0), the FAULT stays", x.fault(0), 1);
        is("fault(1)", x.fault(1), 7);
        is("count(6), nothing to undo", x.count(6), 0);
    }

    /** With nothing to undo: what can be undone is not in the IMAGE. */
    private static LeaseLedger kept() {
        LeaseLedger x = Twin.BUSY.get();
        x.text(0);
        Check.tell(x, Twin.RICH);
        x.go(2);
        x.take(0);
        x.become(1111);
        x.keep();
        x.back();
        return x;
    }

    private static LeaseLedger keptFull() {
        LeaseLedger x = Twin.FULL.get();
        x.keep();
        x.back();
        return x;
    }

    private static LeaseLedger cameBackFull() {
        LeaseLedger x = keptFull();
        for (Twin.Call deed : UNDONE) {
            deed.of(x);
        }
        x.go(12);
        x.back();
        return x;
    }

    private static LeaseLedger cameBack() {
        LeaseLedger x = kept();
        for (Twin.Call deed : UNDONE) {
            deed.of(x);
        }
        x.go(12);
        x.back();
        return x;
    }

    private static void periods99() {
        says("PERIODS are 99 at most.");
        LeaseLedger x = Twin.LATE.get();
        is("count(2)", x.count(2), 99);
        for (int n = 1; n <= 12; n++) {
            is("go(" + n + ") in PERIOD 99", x.go(n), -2);
        }
        x.undo();
        is("go(2) in PERIOD 98", x.go(2), -2);
        is("go(1) in PERIOD 98", x.go(1), 99);
    }

    private static void noneAhead() {
        says("NONE goes ahead of -2, that of -3;");
        LeaseLedger late = Twin.LATE.get();
        is("go(13) in PERIOD 99", late.go(13), -1);
        is("go(0) in PERIOD 99", late.go(0), -1);
        is("chance(1, 0, 0) in PERIOD 99", late.chance(1, 0, 0), -1);
        is("chance(1, 11, 0) in PERIOD 99", late.chance(1, 11, 0), -1);
        is("chance(-2, 1, 0) in PERIOD 99", late.chance(-2, 1, 0), -1);
        is("chance(1, 1, 3) in PERIOD 99", late.chance(1, 1, 3), -1);
        is("chance(1, 1, 0) in PERIOD 99", late.chance(1, 1, 0), -2);
        is("peak(2), nothing is paid", late.peak(2), -1);
        is("peak(1), nothing is paid", late.peak(1), -2);
        LeaseLedger told = Twin.TOLD.get();
        is("ifIndex(0, 499) of one not begun", told.ifIndex(0, 499), -1);
        is("ifIndex(0, 500) of one not begun", told.ifIndex(0, 500), -2);
        is("ifIndex(4, 500)", told.ifIndex(4, 500), -1);
        is("latest(0, 6), no ENTRIES", told.latest(0, 6), -1);
        is("latest(0, 5), no ENTRIES", told.latest(0, 5), -2);
        is("yields(0, 1, 1000000000), by none", told.yields(0, 1, 1000000000), -1);
        is("yields(0, 1, 999999999), by none", told.yields(0, 1, 999999999), -2);
        is("yields(0, 10, 999999999), by none", told.yields(0, 10, 999999999), -1);
        is("level(0, 1000000000), none", told.level(0, 1000000000), -1);
        is("choose(4)", told.choose(4), -1);
        is("partFor(4, 0)", told.partFor(4, 0), -1);
        is("life(4, true)", told.life(4, true), -1);
    }

    private static void exceptionsAhead() {
        says("IndexOutOfBoundsException ahead of NoSuchElementException, both ahead of numbers.");
        LeaseLedger x = Twin.BUSY.get();
        is("lease(4, 9)", Check.lease(x, 4, 9), Check.OUT);
        is("lease(-1, -1)", Check.lease(x, -1, -1), Check.OUT);
        is("lease(4, 0)", Check.lease(x, 4, 0), Check.OUT);
        is("lease(3, 9)", Check.lease(x, 3, 9), Check.NO_SUCH);
        is("lease(3, -1)", Check.lease(x, 3, -1), Check.NO_SUCH);
        is("lease(0, 9) of a new object", Check.lease(new LeaseLedger(), 0, 9), Check.OUT);
    }

    private static void refusedChangesNothing() {
        says("A call that is refused changes nothing.");
        List<Twin.Call> refused = new ArrayList<>();
        refused.add(x -> x.text(-1));
        refused.add(x -> x.go(0));
        refused.add(x -> x.go(13));
        refused.add(x -> Check.lease(x, 4, 0));
        refused.add(x -> Check.lease(x, 0, 9));
        refused.add(x -> x.rate(0, 200001));
        refused.add(x -> x.rate(3, 5));
        refused.add(x -> x.extend(0, 25));
        refused.add(x -> x.extend(0, 0));
        refused.add(x -> x.take(1));
        refused.add(x -> x.take(4));
        refused.add(x -> x.part(0, 1000));
        refused.add(x -> x.part(0, 0));
        refused.add(x -> x.end(2));
        refused.add(x -> x.end(3));
        refused.add(x -> x.down(0, 0));
        refused.add(x -> x.down(0, Long.MAX_VALUE));
        refused.add(x -> x.putOff(0, 8, 9));
        refused.add(x -> x.putOff(1, 12, 12));
        refused.add(x -> x.become(499));
        refused.add(x -> x.become(2001));
        for (int i = 0; i < refused.size(); i++) {
            Twin.leaves("refused call " + i, Twin.BUSY, refused.get(i));
        }
        Twin.leaves("go(1)", Twin.LATE, x -> x.go(1));
        Twin.leaves("go(12)", Twin.LATE, x -> x.go(12));
        Twin.leaves("undo()", Twin.TOLD, x -> x.undo());
        Twin.leaves("back()", Twin.TOLD, x -> x.back());
        Twin.leaves("feed(), 700 are there", DeedBounds::fullTape, x -> x.feed(1, 2, 3, 4, 5));
    }

    private static LeaseLedger fullTape() {
        LeaseLedger x = Twin.BEGUN.get();
        for (int i = 0; i < 35; i++) {
            x.feed(0x20202020, 0x20202020, 0x20202020, 0x20202020, 0x20202020);
        }
        return x;
    }
}
