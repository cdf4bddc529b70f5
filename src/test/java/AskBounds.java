import static java.lang.Integer.MAX_VALUE;
import static java.lang.Integer.MIN_VALUE;

/** The bounds that promises 27 to 43 name, sentence by sentence. */
final class AskBounds {
    private static final long NO = Check.NO;
    private static final String PLAIN = "lease a 0 2 100000;pay a 1 2 1100;option a 2 500;";
    private static final String TIED = "lease t 0 4 0;pay t 1 4 1001;tied t;option t 2 101;";

    private AskBounds() {
    }

    static void run() {
        promise27();
        promise27Refused();
        promise28();
        promise29();
        promise30();
        promise31();
        promise32();
        promise33();
        promise34();
        promise35();
        promise36();
        promise37();
        promise38();
        promise39();
        promise39Refused();
        promise40();
        promise41();
        promise42();
        promise43();
    }

    private static void says(String words) {
        Sentences.says(words);
    }

    private static void is(String call, long got, long want) {
        Sentences.is(call, got, want);
    }

    private static LeaseLedger begun(String text) {
        LeaseLedger x = Check.told(text);
        x.go(1);
        return x;
    }

    private static LeaseLedger plain() {
        return begun(PLAIN);
    }

    private static void promise27() {
        Sentences.in("Promise 27");
        says("Options (bits) of a LEASE that weren't taken such that, if just these were taken now by their numbers,"
            + " OWED by its own periods left (a fraction) would be least, of several the least as bits (0: none);");
        // 20 by 2; 8 more by 2: 28 by 4; 4 more by 1: 24 by 3; both: 32 by 5.
        LeaseLedger x = begun("lease a 0 3 0;pay a 1 3 10;option a 2 10;option a 2 4;lease b 0 9 0;option b 1 0;option a 1 4;");
        is("choose(0)", x.choose(0), 2 | 8);
        x.take(1);
        is("choose(0), option 1 was taken", x.choose(0), 8);
        is("choose(1), 0 by 8 or by 9", x.choose(1), 0);
        // As fractions: 20 by 2 and 30 by 3 are the same; 29 by 3 is less.
        is("30 by 3", begun("lease a 0 3 0;pay a 1 3 10;option a 1 10;").choose(0), 0);
        is("29 by 3", begun("lease a 0 3 0;pay a 1 3 10;option a 1 9;").choose(0), 1);
        is("29 by 3, whatever is USED", begun("lease a 0 3 0;pay a 1 3 10;option a 1 9;fee a 7;").choose(0), 1);
        is("31 by 3, whatever is USED", begun("lease a 0 3 0;pay a 1 3 10;option a 1 11;fee a 99;").choose(0), 0);
        is("31 by 3", begun("lease a 0 3 0;pay a 1 3 10;option a 1 11;").choose(0), 0);
        is("25 by 3 each, 30 by 4 both", begun("lease a 0 3 0;pay a 1 3 10;option a 1 5;option a 1 5;").choose(0), 3);
        is("of several the least as bits", begun("lease a 0 48 0;pay a 1 48 10;option a 24 5;option a 24 5;").choose(0), 1);
        // Nothing is RE-MEASURED by none: OWED is 1 by 1 as it is, though WORTH of what is left is 0; taken it is 1 by 2.
        LeaseLedger rest = begun("lease a 0 2 200000;pay a 1 1 3;option a 1 1;");
        is("OWED as it is", rest.amount(0, 0), 1);
        is("1 by 2", rest.choose(0), 1);
        LeaseLedger none = begun("lease a 0 3 0;pay a 1 3 10;");
        is("no options", none.choose(0), 0);
        // All four of them: 20 by 2, then 0 each.
        is("all four", begun("lease a 0 3 0;pay a 1 3 10;" + "option a 1 0;".repeat(4)).choose(0), 15);
        // Tied: taken, all that is left is INDEXED by the INDEX now.
        LeaseLedger t = begun("lease t 0 3 0;pay t 1 3 10;tied t;option t 1 30;");
        t.become(500);
        is("tied, (5 and 5 and 15) by 3", t.choose(0), 1);
        t.become(2000);
        is("tied, (20 and 20 and 60) by 3", t.choose(0), 0);
        // INDEXED by 500 it is 5 each; by 1000 again 10 each, as SETTING is: (10 and 1) by 2 is more than 5 by 1.
        LeaseLedger s = begun("lease t 0 3 0;pay t 1 3 10;tied t;option t 1 1;");
        s.become(500);
        s.go(1);
        is("tied, (5 and 0) by 2", s.choose(0), 1);
        s.become(1000);
        is("tied, (10 and 1) by 2", s.choose(0), 0);
        Twin.leaves("choose", Twin.BUSY, y -> y.choose(1));
    }

    private static void promise27Refused() {
        says("sets by which TERM would be above 72 don't count;");
        // 423 by 47; 543 by 71; 503 by 67; both would be 92.
        is("choose(0)", begun("lease a 0 48 0;pay a 1 48 9;option a 24 5;option a 20 4;").choose(0), 2);
        is("48 and 23 and 1 is 72", begun("lease a 0 48 0;pay a 1 48 9;option a 23 0;option a 1 0;").choose(0), 3);
        is("48 and 23 and 2 is 73", begun("lease a 0 48 0;pay a 1 48 9;option a 23 0;option a 2 0;").choose(0), 1);
        is("48 and 24 is 72", begun("lease a 0 48 0;pay a 1 48 9;option a 24 0;").choose(0), 1);
        LeaseLedger x = begun("lease a 0 48 0;pay a 1 48 9;option a 24 0;");
        x.extend(0, 1);
        is("49 and 24 is 73", x.choose(0), 0);
        says("-2: it has not begun, is ENDED;");
        Twin.refused("choose(0), not begun", Twin.TOLD, y -> y.choose(0), -2);
        Twin.refused("choose(0), ENDED", Twin.ENDED, y -> y.choose(0), -2);
        Twin.refused("choose(1), ENDED by call", Twin.ENDED, y -> y.choose(1), -2);
        says("NONE: no such LEASE.");
        Twin.leases("choose", CallBounds::four, (y, i) -> y.choose(i), -1);
    }

    private static void life(LeaseLedger x, String when, long upper, long lower) {
        is(when + ", the upper number", x.life(0, false), upper);
        is(when + ", the lower number", x.life(0, true), lower);
    }

    private static void promise28() {
        Sentences.in("Promise 28");
        says("Of a LEASE, how far off what it pays is in the mean: of its own periods left (not begun: of all) each DUE times"
            + " how many PERIODS from now on it is (the one that goes by next 0), together, by all DUE: a fraction in least terms,"
            + " its upper number, (under) its lower one;");
        LeaseLedger x = Check.told("lease a 2 3 0;pay a 1 1 6;pay a 3 3 2;lease b 0 2 0;");
        life(x, "6 in 2 and 2 in 4: 20 by 8", 5, 2);
        x.go(1);
        life(x, "6 in 1 and 2 in 3: 12 by 8", 3, 2);
        x.go(1);
        life(x, "6 in 0 and 2 in 2: 4 by 8", 1, 2);
        x.go(1);
        life(x, "2 in 1", 1, 1);
        x.go(1);
        life(x, "2 in 0: 0 by 2", 0, 1);
        LeaseLedger s = begun("lease a 0 4 0;pay a 1 4 1;pay a 4 4 2;tied a;");
        s.become(500);
        s.go(1);
        life(s, "by DUE 0 in 0 and 1 in 1", 1, 1);
        life(Check.told("lease a 0 2 0;pay a 1 48 5;"), "what pays tell beyond TERM doesn't count: 5 by 10", 1, 2);
        LeaseLedger far = Check.told("lease a 20 48 0;pay a 48 48 99999;");
        life(far, "all in 67", 67, 1);
        says("-2: nothing is DUE, ENDED;");
        Twin.refused("life, ENDED", Twin.ENDED, y -> y.life(0, true), -2);
        Twin.refused("life, ENDED by call", Twin.ENDED, y -> y.life(1, false), -2);
        Twin.refused("life, not begun, nothing is DUE", () -> Check.told("lease a 3 9 0;"), y -> y.life(0, false), -2);
        Twin.refused("life, nothing is DUE of what is left", () -> begun("lease a 0 9 0;pay a 1 1 5;"), y -> y.life(0, true), -2);
        says("NONE: no such LEASE.");
        Twin.leases("life(.., false)", CallBounds::four, (y, i) -> y.life(i, false), -1);
        Twin.leases("life(.., true)", CallBounds::four, (y, i) -> y.life(i, true), -1);
    }

    private static void promise29() {
        Sentences.in("Promise 29");
        says("AS IT GOES in the next 72 PERIODS (no more than come) the one in which most is paid (without fees),"
            + " what 0 in how many PERIODS (0 the next one), of several the first, 1 how much;");
        LeaseLedger x = Check.told("lease a 1 3 0;pay a 1 3 5;lease b 2 3 0;pay b 1 3 4;fee b 90;");
        is("peak(0), 9 in 2 and in 3", x.peak(0), 2);
        is("peak(1)", x.peak(1), 9);
        x.go(4);
        is("peak(0), the next one", x.peak(0), 0);
        is("peak(1)", x.peak(1), 4);
        LeaseLedger last = CallBounds.inPeriod("lease a 20 48 0;pay a 1 48 1;", 21);
        last.extend(0, 24);
        for (int k = 2; k < 72; k++) {
            last.putOff(0, k, 72);
        }
        is("all is paid in PERIOD 91: peak(0)", last.peak(0), 70);
        is("peak(1)", last.peak(1), 71);
        LeaseLedger same = Check.told("lease a 1 47 0;pay a 1 47 1;lease b 20 48 0;pay b 48 48 1;");
        is("of several the first", same.peak(0), 1);
        LeaseLedger more = Check.told("lease a 1 47 0;pay a 1 47 1;lease b 20 48 0;pay b 48 48 2;");
        is("the most is the last", more.peak(0), 67);
        says("-2: nothing is paid;");
        Twin.refused("peak(0) of a new object", Twin.NEW, z -> z.peak(0), -2);
        Twin.refused("peak(1) of a new object", Twin.NEW, z -> z.peak(1), -2);
        Twin.refused("peak(0) in PERIOD 99", Twin.LATE, z -> z.peak(0), -2);
        Twin.refused("peak(1), fees alone", () -> Check.told("lease a 0 9 0;fee a 99999;"), z -> z.peak(1), -2);
        says("NONE for another what.");
        Twin.bounds("peak", Twin.BUSY, (z, what) -> z.peak(what), -1, 0, 1);
        Twin.refused("peak(2), nothing is paid", Twin.LATE, z -> z.peak(2), -1);
    }

    private static void promise30() {
        Sentences.in("Promise 30");
        says("The least PART 1 .. 999 of a LEASE whose GAIN would be g or more;");
        // p less 955 p by 1000, downwards: 1 from the first one on.
        LeaseLedger x = plain();
        is("partFor(0, 1)", x.partFor(0, 1), 1);
        is("partFor(0, 0)", x.partFor(0, 0), 1);
        is("partFor of the least long", x.partFor(0, Long.MIN_VALUE), 1);
        is("partFor(0, 2)", x.partFor(0, 2), 23);
        is("part(0, 22)", plain().part(0, 22), 1);
        is("part(0, 23)", plain().part(0, 23), 2);
        is("partFor(0, 45)", x.partFor(0, 45), 978);
        x.down(0, 955);
        is("nothing is USED: partFor(0, 999)", x.partFor(0, 999), 999);
        LeaseLedger y = begun("lease a 0 2 0;fee a 2000;");
        is("a loss by all: partFor(0, -1)", y.partFor(0, -1), 1);
        is("part(0, 1)", y.part(0, 1), -1);
        says("-2: by none, it has not begun, is ENDED;");
        Twin.refused("partFor(0, 46)", AskBounds::plain, z -> z.partFor(0, 46), -2);
        Twin.refused("partFor of the greatest long", AskBounds::plain, z -> z.partFor(0, Long.MAX_VALUE), -2);
        is("partFor(0, 1000), all is no PART", x.partFor(0, 1000), -2);
        is("partFor(0, 0), only losses", begun("lease a 0 2 0;fee a 2000;").partFor(0, 0), -2);
        Twin.refused("partFor(0, -9), not begun", Twin.TOLD, z -> z.partFor(0, -9), -2);
        Twin.refused("partFor(0, -9), ENDED", Twin.ENDED, z -> z.partFor(0, -9), -2);
        says("NONE: no such LEASE.");
        Twin.leases("partFor(.., 0)", CallBounds::four, (z, i) -> z.partFor(i, 0), -1);
    }

    private static void promise31() {
        Sentences.in("Promise 31");
        says("The PERIOD of the latest ENTRY of a sort 0 .. 5 that is kept of a LEASE;");
        LeaseLedger x = Check.told("lease a 0 48 0;pay a 1 48 5;lease b 1 48 0;");
        x.go(2);
        is("latest(0, 0)", x.latest(0, 0), 0);
        is("latest(1, 0)", x.latest(1, 0), 1);
        is("latest(0, 1)", x.latest(0, 1), 1);
        x.rate(0, 1);
        x.go(1);
        is("latest(0, 2)", x.latest(0, 2), 2);
        x.part(0, 1);
        x.down(0, 1);
        is("latest(0, 3)", x.latest(0, 3), 3);
        is("latest(0, 5)", x.latest(0, 5), 3);
        x.end(0);
        is("latest(0, 4)", x.latest(0, 4), 3);
        for (int i = 12; i <= 40; i++) {
            x.rate(1, i);
        }
        is("40 ENTRIES: count(4)", x.count(4), 40);
        is("latest(0, 0), the first ENTRY", x.latest(0, 0), 0);
        x.rate(1, 41);
        is("41 ENTRIES: latest(0, 0)", x.latest(0, 0), -2);
        is("latest(0, 1)", x.latest(0, 1), 2);
        says("-2: there is none;");
        Twin.refused("latest(0, 0), none", Twin.TOLD, y -> y.latest(0, 0), -2);
        Twin.refused("latest(0, 4), none of the sort", Twin.BUSY, y -> y.latest(0, 4), -2);
        Twin.refused("latest(3, 1), none of the LEASE", Twin.BUSY, y -> y.latest(3, 1), -2);
        says("NONE: no such ones.");
        Twin.leases("latest(.., 1)", CallBounds::four, (y, i) -> y.latest(i, 1), -1);
        Twin.bounds("latest(1, ..)", Twin.BUSY, (y, sort) -> y.latest(1, sort), -1, 0, 5);
    }

    private static void promise32() {
        Sentences.in("Promise 32");
        says("AS IT GOES in how many PERIODS OWED of a LEASE that has begun is not above half of what it is now (0 if it is 0);");
        LeaseLedger x = begun("lease a 0 5 0;pay a 1 5 10;");
        is("half(0), 40: 20 sharp in 2", x.half(0), 2);
        x.go(1);
        is("half(0), 30: 20 is above 15, 10 in 2", x.half(0), 2);
        is("half(0), 3: 2 is above one and a half", begun("lease a 0 4 0;pay a 1 4 1;").half(0), 2);
        is("half(0), 2: 1 in 1", begun("lease a 0 3 0;pay a 1 3 1;").half(0), 1);
        is("half(0), 1: 0 in 1", begun("lease a 0 2 0;pay a 1 2 1;").half(0), 1);
        is("half(0), 0 is OWED", begun("lease a 0 5 0;").half(0), 0);
        is("half(0), 0 is OWED, something is USED", begun("lease a 0 5 0;fee a 99;").half(0), 0);
        is("half(0), 40, whatever is USED", begun("lease a 0 5 0;pay a 1 5 10;fee a 99;").half(0), 2);
        is("half(0), ENDED", Twin.ENDED.get().half(0), 0);
        is("half(0), ENDED in PERIOD 99", Twin.LATE.get().half(0), 0);
        LeaseLedger grows = begun("lease a 0 3 200000;pay a 3 3 99999;");
        is("half(0), it grows till it is paid", grows.half(0), 2);
        says("-2: it isn't within 72 or up to PERIOD 99;");
        // All in own period 72, in PERIOD 91: the latest that there is. None is so far off that -2 could come.
        LeaseLedger last = CallBounds.inPeriod("lease a 20 48 0;pay a 1 48 1;", 21);
        last.extend(0, 24);
        for (int k = 2; k < 72; k++) {
            last.putOff(0, k, 72);
        }
        is("half(0), all in own period 72", last.half(0), 71);
        last.go(12);
        is("half(0) twelve later", last.half(0), 59);
        says("NONE: no such LEASE, it has not begun.");
        Twin.leases("half", CallBounds::four, (y, i) -> y.half(i), -1);
        Twin.refused("half(0), not begun", Twin.TOLD, y -> y.half(0), -1);
        Twin.refused("half(3), not begun", Twin.BUSY, y -> y.half(3), -1);
    }

    private static void promise33() {
        Sentences.in("Promise 33");
        says("Of all LEASES AS IT GOES, what is paid (without fees) in PERIODS i to j from now on (0 the next one),"
            + " 0 .. 71 each, i no more than j, as far as they come;");
        LeaseLedger x = Check.told("lease a 1 3 0;pay a 1 3 5;lease b 2 3 0;pay b 1 3 4;fee b 90;");
        is("cash(0, 0)", x.cash(0, 0), 0);
        is("cash(1, 1)", x.cash(1, 1), 5);
        is("cash(1, 2)", x.cash(1, 2), 14);
        is("cash(0, 71)", x.cash(0, 71), 27);
        is("cash(4, 71)", x.cash(4, 71), 4);
        is("cash(71, 71)", x.cash(71, 71), 0);
        x.go(2);
        is("cash(0, 0), from now on", x.cash(0, 0), 9);
        LeaseLedger y = Check.told("lease b 20 48 0;pay b 48 48 7;");
        is("cash(67, 67)", y.cash(67, 67), 7);
        is("cash(68, 71)", y.cash(68, 71), 0);
        LeaseLedger last = CallBounds.inPeriod("lease a 20 48 0;pay a 1 48 1;", 21);
        last.extend(0, 24);
        is("PERIOD 91 is 70 from 21 on: cash(70, 70)", last.cash(70, 70), 1);
        is("cash(71, 71)", last.cash(71, 71), 0);
        is("cash(0, 71)", last.cash(0, 71), 71);
        is("PERIOD 99: cash(0, 71)", Twin.LATE.get().cash(0, 71), 0);
        is("PERIOD 99: cash(71, 71)", Twin.LATE.get().cash(71, 71), 0);
        says("NONE: no such ones.");
        Twin.bounds("cash(.., 71)", Twin.BUSY, (z, i) -> z.cash(i, 71), -1, 0, 71);
        Twin.bounds("cash(0, ..)", Twin.BUSY, (z, j) -> z.cash(0, j), -1, 0, 71);
        Twin.bounds("cash(.., 5)", Twin.BUSY, (z, i) -> z.cash(i, 5), -1, 0, 5);
        Twin.refused("cash(6, 5)", Twin.BUSY, z -> z.cash(6, 5), -1);
        Twin.refused("cash(72, 72)", Twin.BUSY, z -> z.cash(72, 72), -1);
        Twin.refused("cash(-1, -1)", Twin.BUSY, z -> z.cash(-1, -1), -1);
        Twin.refused("cash of the outmost ints", Twin.NEW, z -> z.cash(MIN_VALUE, MAX_VALUE), -1);
    }

    private static void promise34() {
        Sentences.in("Promise 34");
        says("What OWED of a LEASE that has begun and is not ENDED would be, if the INDEX became v 500 .. 2000, tied ones being INDEXED and RE-MEASURED at once;");
        LeaseLedger x = begun(TIED + "lease u 0 4 0;pay u 1 4 1001;fee u 99;");
        is("ifIndex(0, 500): 500.5 each", x.ifIndex(0, 500), 1500);
        is("ifIndex(0, 2000)", x.ifIndex(0, 2000), 6006);
        is("ifIndex(0, 1000)", x.ifIndex(0, 1000), 3003);
        is("ifIndex(1, 500), not tied", x.ifIndex(1, 500), 3003);
        // INDEXED by 1500 it is 1501 each; SETTING is 1001 still.
        x.become(1500);
        x.go(1);
        is("ifIndex(0, 1000), by SETTING", x.ifIndex(0, 1000), 2002);
        is("ifIndex(0, 1500)", x.ifIndex(0, 1500), 3002);
        is("ifIndex(0, 2000)", x.ifIndex(0, 2000), 4004);
        says("-2: it has not begun, is ENDED;");
        Twin.refused("ifIndex(1, 1000), not begun", Twin.TOLD, y -> y.ifIndex(1, 1000), -2);
        Twin.refused("ifIndex(0, 1000), ENDED", Twin.ENDED, y -> y.ifIndex(0, 1000), -2);
        Twin.refused("ifIndex(1, 1000), ENDED by call", Twin.ENDED, y -> y.ifIndex(1, 1000), -2);
        says("NONE: no such ones.");
        Twin.leases("ifIndex(.., 1000)", CallBounds::four, (y, i) -> y.ifIndex(i, 1000), -1);
        Twin.bounds("ifIndex(1, ..)", Twin.BUSY, (y, v) -> y.ifIndex(1, v), -1, 500, 2000);
        Twin.bounds("ifIndex(0, ..), not tied", Twin.BUSY, (y, v) -> y.ifIndex(0, v), -1, 500, 2000);
        Twin.refused("ifIndex(0, 499), ENDED", Twin.ENDED, y -> y.ifIndex(0, 499), -1);
        Twin.refused("ifIndex(0, 2001), not begun", Twin.TOLD, y -> y.ifIndex(0, 2001), -1);
    }

    private static LeaseLedger term60() {
        LeaseLedger x = begun("lease a 0 48 0;pay a 1 48 5;option a 12 1;option a 13 1;");
        x.extend(0, 12);
        return x;
    }

    private static void promise35() {
        Sentences.in("Promise 35");
        says("By how much OWED of its LEASE would be more, were an option taken now;");
        LeaseLedger x = plain();
        is("ifTaken(0)", x.ifTaken(0), 789);
        is("ifTaken(0) again", x.ifTaken(0), 789);
        is("take(0)", x.take(0), 789);
        LeaseLedger t = begun(TIED);
        t.become(500);
        is("tied: less", t.ifTaken(0), 3 * 500 + 2 * 50 - 3003);
        t.go(1);
        t.become(2000);
        is("tied, by SETTING", t.ifTaken(0), 2 * 2002 + 2 * 202 - 2 * 500);
        is("take(0)", t.take(0), 2 * 2002 + 2 * 202 - 2 * 500);
        says("Long.MIN_VALUE as take().");
        Twin.refused("ifTaken(0), there are none", Twin.NEW, y -> y.ifTaken(0), NO);
        Twin.bounds("ifTaken", CallBounds::four, (y, option) -> y.ifTaken(option), NO, 0, 3);
        Twin.refused("ifTaken(1), it was", Twin.BUSY, y -> y.ifTaken(1), NO);
        Twin.refused("ifTaken(0), its LEASE has not begun", Twin.TOLD, y -> y.ifTaken(0), NO);
        Twin.refused("ifTaken(0), its LEASE is ENDED", Twin.ENDED, y -> y.ifTaken(0), NO);
        is("ifTaken(0), TERM would be 72", term60().ifTaken(0), 12);
        Twin.refused("ifTaken(1), TERM would be 73", AskBounds::term60, y -> y.ifTaken(1), NO);
        Twin.leaves("ifTaken(0)", Twin.BUSY, y -> y.ifTaken(0));
    }

    private static void promise36() {
        Sentences.in("Promise 36");
        says("The rate 0 .. 200000 that is greatest by which WORTH of a LEASE's own periods from k 1 .. TERM on is w 1 .. 999999999 or more;");
        LeaseLedger x = Check.told("lease c 0 2 5;pay c 1 2 1000;");
        is("yields(0, 2, 990)", x.yields(0, 2, 990), 10611);
        is("worth(0, 2, 10611)", x.worth(0, 2, 10611), 990);
        is("worth(0, 2, 10612)", x.worth(0, 2, 10612), 989);
        is("yields(0, 2, 1)", x.yields(0, 2, 1), 200000);
        is("yields(0, 2, 833)", x.yields(0, 2, 833), 200000);
        is("yields(0, 2, 834)", x.yields(0, 2, 834), 199760);
        is("yields(0, 1, 2000)", x.yields(0, 1, 2000), 250);
        LeaseLedger much = Check.told("lease c 0 1 5;" + "pay c 1 1 99999;".repeat(11));
        is("by 0 alone", much.yields(0, 1, 1099989), 0);
        is("by 1", much.yields(0, 1, 1099988), 1);
        is("what pays tell beyond TERM doesn't count", Check.told("lease c 0 2 5;pay c 1 48 1000;").yields(0, 2, 990), 10611);
        is("yields(0, 2, 1000), of the second alone", x.yields(0, 2, 1000), 500);
        says("-2: by none;");
        is("yields(0, 2, 1001), of the second alone", x.yields(0, 2, 1001), -2);
        is("yields(0, 1, 2001)", x.yields(0, 1, 2001), -2);
        Twin.refused("yields(0, 1, 1099990)", () -> Check.told("lease c 0 1 5;" + "pay c 1 1 99999;".repeat(11)), y -> y.yields(0, 1, 1099990), -2);
        Twin.refused("yields(0, 1, 999999999)", Twin.BUSY, y -> y.yields(0, 1, 999999999), -2);
        says("NONE: no such ones.");
        Twin.leases("yields(.., 1, 1)", CallBounds::four, (y, i) -> y.yields(i, 1, 1), -1);
        Twin.bounds("yields(0, .., 1)", AskBounds::plain, (y, k) -> y.yields(0, k, 1), -1, 1, 2);
        Twin.bounds("yields(0, 1, ..)", Twin.BUSY, (y, w) -> y.yields(0, 1, w), -1, 1, 999999999);
        for (long w : new long[] {Long.MIN_VALUE, Long.MAX_VALUE, (1L << 32) + 1, -(1L << 32) + 1}) {
            Twin.refused("yields(0, 1, " + w + ")", AskBounds::plain, y -> y.yields(0, 1, w), -1);
        }
    }

    private static void promise37() {
        Sentences.in("Promise 37");
        says("The least amount 0 .. 9999999, the same in each of a LEASE's own periods 1 .. TERM, by which WORTH of all of them by its RATE is w 1 .. 999999999 or more;");
        LeaseLedger x = Check.told("lease a 0 2 100000;lease b 0 2 100000;early b;lease c 0 1 0;lease d 0 48 0;");
        is("level(0, 1909)", x.level(0, 1909), 1100);
        is("level(0, 1907)", x.level(0, 1907), 1099);
        is("level(1, 1909), early", x.level(1, 1909), 1000);
        is("level(2, 1)", x.level(2, 1), 1);
        is("level(2, 9999999)", x.level(2, 9999999), 9999999);
        is("level(3, 479999952)", x.level(3, 479999952), 9999999);
        // 1 by 1.2 is ROUNDED to 1: one is enough for one, and 0 is never.
        LeaseLedger y = Check.told("lease a 0 1 200000;");
        is("level(0, 1)", y.level(0, 1), 1);
        is("level(0, 2)", y.level(0, 2), 2);
        is("level(0, 3)", y.level(0, 3), 3);
        LeaseLedger z = plain();
        z.end(0);
        is("of one that is ENDED, all its own periods", z.level(0, 1909), 1100);
        says("-2: none;");
        Twin.refused("level(2, 10000000)", () -> Check.told("lease c 0 1 0;"), w -> w.level(0, 10000000), -2);
        is("level(3, 479999953)", x.level(3, 479999953), -2);
        is("level(2, 999999999)", x.level(2, 999999999), -2);
        says("NONE: no such ones.");
        Twin.leases("level(.., 1)", CallBounds::four, (w, i) -> w.level(i, 1), -1);
        Twin.bounds("level(0, ..)", Twin.BUSY, (w, v) -> w.level(0, v), -1, 1, 999999999);
        for (long v : new long[] {Long.MIN_VALUE, Long.MAX_VALUE, (1L << 32) + 1, -(1L << 32) + 1}) {
            Twin.refused("level(0, " + v + ")", AskBounds::plain, w -> w.level(0, v), -1);
        }
    }

    private static void promise38() {
        Sentences.in("Promise 38");
        says("Of all LEASES that have begun and are not ENDED the one with the greatest share of OWED by its own periods left (as fractions), the first;");
        // 10 by 2, 20 by 4; c begins later: 18 by 2.
        LeaseLedger x = Check.told("lease a 0 3 0;pay a 1 3 5;lease b 0 5 0;pay b 1 5 5;lease c 1 3 0;pay c 2 3 9;lease d 20 9 0;pay d 1 9 99999;");
        x.go(1);
        is("heaviest(), two the same", x.heaviest(), 0);
        x.go(1);
        is("heaviest()", x.heaviest(), 2);
        x.end(2);
        is("heaviest(), c is ENDED", x.heaviest(), 0);
        x.go(1);
        is("heaviest(), a is ENDED", x.heaviest(), 1);
        // As fractions, not rounded: 7 by 3 is more than 9 by 4.
        LeaseLedger y = begun("lease a 0 5 0;pay a 5 5 9;lease b 0 4 0;pay b 4 4 7;");
        is("9 by 4, 7 by 3", y.heaviest(), 1);
        is("9 by 4, 7 by 3, whatever is USED", begun("lease a 0 5 0;pay a 5 5 9;fee a 999;lease b 0 4 0;pay b 4 4 7;").heaviest(), 1);
        is("7 by 3, 9 by 4, whatever is USED", begun("lease b 0 4 0;pay b 4 4 7;lease a 0 5 0;pay a 5 5 9;fee a 999;").heaviest(), 0);
        is("nothing is OWED of the only one", begun("lease a 0 9 0;").heaviest(), 0);
        is("the last of four", begun("lease a 0 9 0;lease b 0 9 0;lease c 0 9 0;lease d 0 9 0;pay d 1 9 1;").heaviest(), 3);
        says("-2: there is none.");
        Twin.refused("heaviest() of a new object", Twin.NEW, z -> z.heaviest(), -2);
        Twin.refused("heaviest(), none has begun", Twin.TOLD, z -> z.heaviest(), -2);
        Twin.refused("heaviest(), all are ENDED", Twin.LATE, z -> z.heaviest(), -2);
        Twin.refused("heaviest(), one is not begun, the others are ENDED", Twin.ENDED, z -> z.heaviest(), -2);
    }

    private static void promise39() {
        Sentences.in("Promise 39");
        says("BY CHANCE n 1 .. 10 times from a seed 0 .. 2147483647 on (-1: that of the TEXT), what 0 all OWED then, added up, 1 the greatest, 2 the least;");
        String late = "lease t 0 13 0;pay t 13 13 1000;tied t;";
        LeaseLedger x = Check.told(late + "seed 1;");
        // Drawn from 1 on: 1007 at first, 1019 in the end; then 1002 and 979.
        is("chance(1, 1, 0)", x.chance(1, 1, 0), 1011);
        is("chance(1, 2, 0)", x.chance(1, 2, 0), 1011 + 977);
        is("chance(1, 2, 1)", x.chance(1, 2, 1), 1011);
        is("chance(1, 2, 2)", x.chance(1, 2, 2), 977);
        is("chance(1, 1, 1)", x.chance(1, 1, 1), 1011);
        is("chance(1, 1, 2)", x.chance(1, 1, 2), 1011);
        is("chance(-1, 2, 0)", x.chance(-1, 2, 0), 1988);
        is("chance(-1, 2, 0) without a seed", Check.told(late).chance(-1, 2, 0), x.chance(0, 2, 0));
        long most = 0;
        long least = 0;
        long ahead = 0;
        for (int n = 1; n <= 10; n++) {
            long all = x.chance(2147483647, n, 0);
            most = n == 1 ? all : Math.max(most, all - ahead);
            least = n == 1 ? all : Math.min(least, all - ahead);
            ahead = all;
            is("chance(2147483647, " + n + ", 1)", x.chance(2147483647, n, 1), most);
            is("chance(2147483647, " + n + ", 2)", x.chance(2147483647, n, 2), least);
        }
        Sentences.holds("these are not the same", most > least);
    }

    private static void promise39Refused() {
        says("NONE: no such ones;");
        Twin.bounds("chance(.., 1, 0)", Twin.BUSY, (x, seed) -> x.chance(seed, 1, 0), -1, -1, MAX_VALUE);
        Twin.refused("chance(-2, 1, 0)", Twin.BUSY, x -> x.chance(-2, 1, 0), -1);
        Twin.bounds("chance(1, .., 0)", Twin.BUSY, (x, n) -> x.chance(1, n, 0), -1, 1, 10);
        Twin.bounds("chance(1, 1, ..)", Twin.BUSY, (x, what) -> x.chance(1, 1, what), -1, 0, 2);
        says("-2: 12 PERIODS would be beyond 99.");
        is("PERIOD 87: chance(1, 1, 0)", CallBounds.inPeriod(Twin.RICH, 87).chance(1, 1, 0), 0);
        Twin.refused("PERIOD 88: chance(1, 1, 0)", () -> CallBounds.inPeriod(Twin.RICH, 88), x -> x.chance(1, 1, 0), -2);
        Twin.refused("PERIOD 99: chance(-1, 10, 2)", Twin.LATE, x -> x.chance(-1, 10, 2), -2);
        Twin.refused("PERIOD 88: chance(1, 11, 0)", () -> CallBounds.inPeriod(Twin.RICH, 88), x -> x.chance(1, 11, 0), -1);
    }

    private static void promise40() {
        Sentences.in("Promise 40");
        says("The latest is undone: how many are left;");
        LeaseLedger x = plain();
        x.rate(0, 5);
        is("undo()", x.undo(), 1);
        is("RATE", Check.lease(x, 0, 2), 100000);
        is("undo()", x.undo(), 0);
        is("count(2)", x.count(2), 0);
        is("count(4)", x.count(4), 0);
        // INDEXED by 1500 in PERIOD 1; SETTING comes back as it was, too.
        LeaseLedger t = begun(TIED);
        t.become(1500);
        t.go(1);
        t.rate(0, 7);
        t.undo();
        is("due(0, 4)", t.due(0, 4), 1501);
        t.become(1000);
        t.go(1);
        is("due(0, 4) by SETTING", t.due(0, 4), 1001);
        LeaseLedger full = Twin.BUSY.get();
        is("full: count(6)", full.count(6), 20);
        is("undo()", full.undo(), 19);
        says("NONE: none.");
        is("undo(), all were", x.undo(), -1);
        Twin.refused("undo() of a new object", Twin.NEW, y -> y.undo(), -1);
        Twin.refused("undo() behind text()", Twin.TOLD, y -> y.undo(), -1);
        Twin.refused("undo() when twenty were", AskBounds::twentyUndone, y -> y.undo(), -1);
        Twin.refused("undo() behind back()", AskBounds::cameBack, y -> y.undo(), -1);
    }

    private static LeaseLedger twentyUndone() {
        LeaseLedger x = Twin.BUSY.get();
        for (int i = 0; i < 20; i++) {
            x.undo();
        }
        return x;
    }

    private static LeaseLedger cameBack() {
        LeaseLedger x = Twin.BUSY.get();
        x.back();
        return x;
    }

    private static void promise41() {
        Sentences.in("Promise 41");
        says("An IMAGE is kept (in place of one ahead): the PERIOD.");
        is("keep() of a new object", new LeaseLedger().keep(), 0);
        LeaseLedger x = plain();
        is("keep()", x.keep(), 1);
        is("count(6), what can be undone stays", x.count(6), 1);
        x.go(1);
        is("keep()", x.keep(), 2);
        x.undo();
        x.undo();
        is("back(), the later one", x.back(), 2);
        is("keep() in PERIOD 99", Twin.LATE.get().keep(), 99);
        LeaseLedger y = new LeaseLedger();
        y.keep();
        y.go(3);
        is("back() to one without LEASES", y.back(), 0);
    }

    private static void promise42() {
        Sentences.in("Promise 42");
        says("All is as in the IMAGE (nothing to undo then; it stays): the PERIOD;");
        LeaseLedger x = plain();
        x.keep();
        x.take(0);
        x.rate(0, 7);
        x.become(1500);
        x.go(1);
        is("back()", x.back(), 1);
        is("count(6)", x.count(6), 0);
        is("OWED", x.amount(0, 0), 1000);
        is("TERM", Check.lease(x, 0, 1), 2);
        is("index(1)", x.index(1), 1000);
        is("ENTRIES", x.count(4), 2);
        is("the option isn't taken", x.ifTaken(0), 789);
        x.end(0);
        is("back(), it stays", x.back(), 1);
        is("OWED", x.amount(0, 0), 1000);
        LeaseLedger t = begun(TIED);
        t.become(1500);
        t.go(1);
        t.keep();
        t.part(0, 500);
        t.back();
        is("due(0, 4)", t.due(0, 4), 1501);
        t.become(1000);
        t.go(1);
        is("due(0, 4) by SETTING", t.due(0, 4), 1001);
        // The IMAGE is not that what is done behind back().
        x.go(1);
        is("back()", x.back(), 1);
        says("NONE: there is none.");
        Twin.refused("back() of a new object", Twin.NEW, y -> y.back(), -1);
        Twin.refused("back(), none was kept", Twin.BEGUN, y -> y.back(), -1);
        Twin.refused("back() behind text()", AskBounds::toldBehindKeep, y -> y.back(), -1);
    }

    private static LeaseLedger toldBehindKeep() {
        LeaseLedger x = plain();
        x.keep();
        Check.tell(x, Twin.RICH);
        x.go(2);
        return x;
    }

    private static void promise43() {
        Sentences.in("Promise 43");
        says("0 LEASES, 1 options, 2 the PERIOD, 3 ENTRIES that are kept, 4 all ENTRIES, 5 LEASES begun and not ENDED, 6 what can be undone, 7 bytes of the TAPE.");
        LeaseLedger x = Check.told("lease a 0 2 0;lease b 1 30 0;lease c 3 30 0;option a 1 1;option b 1 1;");
        counts(x, 3, 2, 0, 0, 0, 0, 0, 0);
        x.go(1);
        counts(x, 3, 2, 1, 2, 2, 1, 1, 0);
        x.go(1);
        counts(x, 3, 2, 2, 5, 5, 1, 2, 0);
        x.go(2);
        counts(x, 3, 2, 4, 9, 9, 2, 4, 0);
        x.go(12);
        x.feed(1, 2, 3, 4, 5);
        counts(x, 3, 2, 16, 33, 33, 2, 16, 20);
        x.go(4);
        counts(x, 3, 2, 20, 40, 41, 2, 20, 20);
        x.go(1);
        counts(x, 3, 2, 21, 40, 43, 2, 20, 20);
        x.end(1);
        counts(x, 3, 2, 21, 40, 44, 1, 20, 20);
        says("NONE for another what.");
        Twin.bounds("count", Twin.BUSY, (y, what) -> y.count(what), -1, 0, 7);
        Twin.bounds("count of a new object", Twin.NEW, (y, what) -> y.count(what), -1, 0, 7);
    }

    private static void counts(LeaseLedger x, long... due) {
        for (int what = 0; what < due.length; what++) {
            is("count(" + what + ")", x.count(what), due[what]);
        }
    }
}
