import java.math.BigInteger;

/**
 * Amounts near a long's bounds and beyond them: each extend() by one with the payment ahead put off to it
 * doubles what is due last. An answer that a long holds is the document's, whatever is ahead of it.
 */
public final class LargeAmountsTest {
    private static final BigInteger MILLION = BigInteger.valueOf(1000000);

    private LargeAmountsTest() {
    }

    public static void main(String[] args) {
        worthAndOwed();
        worthEarly();
        choose();
        life();
        lifeOfSeveral();
        peak();
        half();
        yields();
        heaviest();
        heaviestOfNearlyTheSame();
        partsBringItBack();
        partFor();
        down();
        interest();
        indexed();
        ifIndexAndIfTaken();
        chance();
        undone();
        Check.end();
    }

    private static void is(String what, long got, long want) {
        Check.due(what, got, want);
    }

    private static BigInteger big(long v) {
        return BigInteger.valueOf(v);
    }

    private static BigInteger doubled(long v, int times) {
        return big(v).shiftLeft(times);
    }

    /** Half upwards, as the document rounds. */
    private static BigInteger rounded(BigInteger x, BigInteger up, BigInteger under) {
        return x.multiply(up).add(x.multiply(up)).add(under).divide(under.add(under));
    }

    private static BigInteger back(BigInteger x, long rate) {
        return rounded(x, MILLION, MILLION.add(big(rate)));
    }

    private static void grow(LeaseLedger x, int lease, int times) {
        for (int i = 0; i < times; i++) {
            int term = (int) Check.lease(x, lease, 1) + 1;
            x.extend(lease, 1);
            is("TERM", Check.lease(x, lease, 1), term);
            x.putOff(lease, term - 1, term);
            is("put off", x.due(lease, term - 1), 0);
        }
    }

    /** Text told, own period 1 gone by, then doubled so often: the one DUE is at the last own period. */
    private static LeaseLedger grown(String text, int times) {
        LeaseLedger x = Check.told(text);
        is("go(1)", x.go(1), 1);
        grow(x, 0, times);
        return x;
    }

    private static void worthAndOwed() {
        LeaseLedger x = grown("lease a 0 2 200000;pay a 2 2 78000;", 46);
        long more = -x.amount(0, 0);
        is("extend's answer fits a long", x.extend(0, 1), more + owedOfTwo(doubled(78000, 46), 47, 200000).longValueExact());
        is("worth of the last", x.worth(0, 49, 200000), 4573968371548160000L);
        is("worth of two", x.worth(0, 48, 200000), 8385608681171626667L);
        is("OWED is WORTH", x.amount(0, 0), x.worth(0, 2, 200000));
    }

    /** Paid at the end: the same DUE in the last two of n own periods that are left. */
    private static BigInteger owedOfTwo(BigInteger due, int n, long rate) {
        BigInteger w = BigInteger.ZERO;
        for (int i = 0; i < n + 1; i++) {
            w = back(i < 2 ? w.add(due) : w, rate);
        }
        return w;
    }

    private static void worthEarly() {
        LeaseLedger x = grown("lease a 0 2 1;pay a 2 2 99999;early a;", 60);
        BigInteger due = doubled(99999, 60);
        BigInteger w = due;
        for (int k = 61; k >= 2; k--) {
            w = back(w, 1000000);
        }
        is("early, far beyond a long ahead of it", x.worth(0, 2, 1000000), w.longValueExact());
        Check.yes("the DUE is beyond a long", due.bitLength() > 63);
    }

    private static void choose() {
        LeaseLedger x = grown("lease a 0 2 0;pay a 2 2 99999;option a 2 0;option a 3 99999;", 46);
        is("bits of the least share", x.choose(0), 3);
        x = grown("lease a 0 2 0;pay a 2 2 99999;option a 2 0;option a 3 99999;", 64);
        is("beyond a long", x.choose(0), 3);
        x = grown("lease a 0 2 0;pay a 2 2 99999;option a 2 0;option a 3 99999;", 66);
        is("TERM would be above 72", x.choose(0), 2);
        is("nothing more by a DUE of 0", grown("lease a 0 2 0;pay a 2 2 99999;option a 2 0;", 66).ifTaken(0), 0);
    }

    private static void life() {
        int[] times = {30, 40, 46, 47, 60, 70};
        for (int n : times) {
            LeaseLedger x = grown("lease a 0 2 0;pay a 2 2 99999;", n);
            is("life doubled " + n, x.life(0, false), n);
            is("life doubled " + n + " under", x.life(0, true), 1);
        }
    }

    private static void lifeOfSeveral() {
        LeaseLedger x = grown("lease a 0 3 0;pay a 2 3 60000;", 45);
        // 60000 at 0 PERIODS from now, 60000 doubled 45 times at 46.
        is("upper", x.life(0, false), 46L << 45);
        is("lower", x.life(0, true), 1 + (1L << 45));
        x = grown("lease a 0 3 0;pay a 2 3 99999;", 62);
        is("lower, the DUE beyond a long", x.life(0, true), 1 + (1L << 62));
        x.extend(0, 1);
        x.putOff(0, 2, 65);
        is("one more", x.due(0, 2), 0);
        BigInteger far = doubled(1, 62).add(BigInteger.ONE).multiply(big(63)).add(doubled(1, 62).multiply(big(64)));
        BigInteger all = doubled(1, 63).add(BigInteger.ONE);
        BigInteger common = far.gcd(all);
        is("upper beyond a long", x.life(0, false), far.divide(common).longValue());
        is("lower beyond a long", x.life(0, true), all.divide(common).longValue());
    }

    private static void peak() {
        LeaseLedger x = grown("lease a 0 2 0;pay a 2 2 99999;lease b 0 2 0;pay b 2 2 99999;", 46);
        grow(x, 1, 46);
        is("both in one PERIOD", x.peak(0), 46);
        grow(x, 1, 1);
        is("the later one is greater by one doubling", x.peak(0), 47);
        grow(x, 0, 23);
        is("far beyond a long", x.peak(0), 69);
        is("as far as they come", x.cash(0, 46), 0);
    }

    private static void half() {
        LeaseLedger x = grown("lease a 0 2 0;pay a 2 2 99999;", 46);
        is("all but the last PERIOD", x.half(0), 47);
        grow(x, 0, 24);
        is("beyond a long", x.half(0), 71);
        x = grown("lease a 0 2 0;pay a 2 2 99999;", 46);
        x.extend(0, 1);
        is("just half is not above half", x.half(0), 47);
    }

    private static void yields() {
        String text = "lease a 0 2 200000;pay a 2 2 70000;early a;";
        LeaseLedger x = grown(text, 46);
        x.extend(0, 1);
        is("WORTH by 0 is beyond a long", x.yields(0, 48, 1), 200000);
        x = grown(text, 70);
        is("all far beyond a long", x.yields(0, 72, 999999999L), 200000);
        is("from the first on", x.yields(0, 1, 999999999L), 200000);
        x = grown("lease a 0 2 0;pay a 2 2 1;", 40);
        long due = 1L << 40;
        int rate = x.yields(0, 2, 999999999L);
        Check.yes("WORTH by it", x.worth(0, 2, rate) >= 999999999L && x.worth(0, 2, rate + 1) < 999999999L);
        is("DUE", x.due(0, 42), due);
    }

    /** The same OWED of both, one that is no round number of 2: the first; one less in either decides. */
    private static void heaviestOfNearlyTheSame() {
        String text = "lease a 0 3 0;pay a 3 3 99999;lease b 0 3 0;pay b 3 3 99999;";
        LeaseLedger x = grown(text, 50);
        grow(x, 1, 50);
        x.part(0, 1);
        x.part(1, 1);
        is("two the same", x.amount(0, 0), x.amount(1, 0));
        is("the first of two the same", x.heaviest(), 0);
        LeaseLedger w = grown(text + "pay b 2 2 9;", 50);
        grow(w, 1, 50);
        w.part(0, 1);
        w.part(1, 1);
        is("nine more", w.amount(1, 0) - w.amount(0, 0), 9);
        is("nine more decide", w.heaviest(), 1);
        LeaseLedger y = grown(text.replace("pay b 3 3 99999", "pay b 3 3 99998"), 50);
        grow(y, 1, 50);
        is("the second is a little less", y.heaviest(), 0);
        LeaseLedger z = grown(text.replace("pay a 3 3 99999", "pay a 3 3 99998"), 50);
        grow(z, 1, 50);
        is("the first is a little less", z.heaviest(), 1);
    }

    private static void heaviest() {
        LeaseLedger x = grown("lease a 0 2 0;pay a 2 2 99999;lease b 0 48 0;pay b 48 48 1;", 46);
        is("against 1", x.heaviest(), 0);
        x = Check.told("lease a 0 48 0;pay a 48 48 1;lease b 0 2 0;pay b 2 2 99999;");
        x.go(1);
        grow(x, 1, 70);
        is("the second one, beyond a long", x.heaviest(), 1);
        grow(x, 0, 24);
        is("the first one is far less still", x.heaviest(), 1);
    }

    /** Rate 0: parts given back make of what no long holds an amount that a long holds. */
    private static void partsBringItBack() {
        LeaseLedger x = grown("lease a 0 2 0;pay a 2 2 99999;fee a 77;", 70);
        BigInteger due = doubled(99999, 70);
        BigInteger owed = due;
        for (int i = 0; i < 5; i++) {
            owed = owed.subtract(owed.multiply(big(999)).divide(big(1000)));
            due = due.divide(big(1000));
            x.part(0, 999);
        }
        is("OWED", x.amount(0, 0), owed.longValueExact());
        is("DUE", x.due(0, 72), due.longValueExact());
        is("account OWED", x.account(1), owed.negate().longValueExact());
        is("account USED", x.account(2), x.amount(0, 1));
        long together = 0;
        for (int a = 0; a < 6; a++) {
            together += x.account(a);
        }
        is("all accounts", together, 0);
        is("what it became more less what it became less", x.moved(0, 3) - x.moved(0, 4) - owed.longValueExact() + 99999, 0);
    }

    private static void partFor() {
        LeaseLedger x = grown("lease a 0 2 0;pay a 2 2 99999;", 70);
        // OWED was 99999 and USED 50000 behind the first PERIOD; both are more by as much since.
        BigInteger owed = doubled(99999, 70);
        BigInteger used = owed.subtract(big(49999));
        for (long g : new long[] {Long.MIN_VALUE, -1, 0, 1, 2, 25000, 49000, 49948, 49949, 49950, 49999, Long.MAX_VALUE}) {
            is("partFor " + g, x.partFor(0, g), leastPart(owed, used, g));
        }
        for (int i = 0; i < 120; i++) {
            x.down(0, Long.MAX_VALUE);
            used = used.subtract(big(Long.MAX_VALUE));
        }
        // So the GAIN of some PARTS is beyond a long, that of others isn't.
        for (long g : new long[] {Long.MAX_VALUE, Long.MAX_VALUE / 2, 1L << 60, 1L << 42, 5, 0, -5, Long.MIN_VALUE}) {
            is("partFor " + g, x.partFor(0, g), leastPart(owed, used, g));
        }
    }

    private static int leastPart(BigInteger owed, BigInteger used, long g) {
        for (int p = 1; p < 1000; p++) {
            BigInteger o = owed.multiply(big(p)).divide(big(1000));
            if (o.subtract(used.multiply(big(p)).divide(big(1000))).compareTo(big(g)) >= 0) {
                return p;
            }
        }
        return -2;
    }

    private static void down() {
        LeaseLedger x = grown("lease a 0 2 0;pay a 2 2 99999;", 70);
        BigInteger used = doubled(99999, 70).subtract(big(99999)).add(big(50000));
        is("v is a long's greatest", x.down(0, Long.MAX_VALUE), used.subtract(big(Long.MAX_VALUE)).longValue());
        is("v 0", x.down(0, 0), Check.NO);
        is("v below 0", x.down(0, Long.MIN_VALUE), Check.NO);
        x = grown("lease a 0 2 0;pay a 2 2 99999;", 46);
        long small = x.amount(0, 1);
        is("more than USED", x.down(0, small + 1), Check.NO);
        is("all of USED", x.down(0, small), 0);
    }

    /** Paid at the end by a fifth: INTEREST of each PERIOD, OWED far beyond a long at last. */
    private static void interest() {
        LeaseLedger x = grown("lease a 0 2 200000;pay a 2 2 99999;", 60);
        BigInteger owed = doubled(99999, 60);
        for (int i = 0; i < 61; i++) {
            owed = back(owed, 200000);
        }
        is("OWED", x.amount(0, 0), owed.longValueExact());
        for (int i = 0; i < 5; i++) {
            BigInteger interest = BigInteger.ZERO;
            is("go", x.go(12), 13 + 12 * i);
            for (int k = 0; k < 12; k++) {
                interest = rounded(owed, big(200000), MILLION);
                owed = owed.add(interest);
            }
            is("INTEREST", x.entry(0, 13), interest.longValue());
            is("OWED", x.amount(0, 0), owed.longValue());
        }
        is("the last own period", x.go(1), 62);
        is("INTEREST takes what is left", x.entry(0, 13), doubled(99999, 60).subtract(owed).longValue());
        is("nothing is left", x.amount(0, 0), 0);
    }

    private static void indexed() {
        LeaseLedger x = grown("lease a 0 2 0;pay a 2 2 99999;tied a;index 0 2000;", 49);
        BigInteger setting = doubled(99999, 49);
        x.become(501);
        x.go(1);
        is("INDEXED downwards", x.due(0, 51), setting.multiply(big(501)).divide(big(2000)).longValue());
        x.become(500);
        x.go(1);
        is("a quarter", x.due(0, 51), setting.shiftRight(2).longValue());
        is("OWED by it", x.amount(0, 0), setting.shiftRight(2).longValue());
        x = grown("lease a 0 2 0;pay a 2 2 40000;tied a;index 0 2000;", 49);
        x.become(501);
        x.go(1);
        is("SETTING is beyond a long, DUE isn't", x.due(0, 51),
            doubled(40000, 49).multiply(big(501)).divide(big(2000)).longValueExact());
    }

    private static void ifIndexAndIfTaken() {
        LeaseLedger x = grown("lease a 0 2 0;pay a 2 2 40000;tied a;index 0 2000;option a 1 4000;", 49);
        BigInteger then = doubled(40000, 49).multiply(big(777)).divide(big(2000));
        is("ifIndex", x.ifIndex(0, 777), then.longValueExact());
        is("ifTaken", x.ifTaken(0), 4000);
        is("take", x.take(0), 4000);
    }

    private static void chance() {
        LeaseLedger x = grown("lease a 0 2 0;pay a 2 2 99999;tied a;", 46);
        long least = x.chance(7, 10, 2);
        long greatest = x.chance(7, 10, 1);
        Check.yes("least and greatest", least > 0 && greatest > least);
        // Both have much OWED: all together it is beyond a long, and the rest that a long holds is small.
        x = grown("lease a 0 2 0;pay a 2 2 99999;tied a;", 60);
        for (int i = 0; i < 3; i++) {
            x.part(0, 999);
        }
        Check.yes("in order again", x.chance(7, 10, 2) > 0 && x.chance(7, 10, 1) > x.chance(7, 10, 2));
    }

    private static void undone() {
        LeaseLedger x = grown("lease a 0 2 0;pay a 2 2 99999;", 60);
        is("keep", x.keep(), 1);
        x.part(0, 500);
        x.undo();
        is("life as it was", x.life(0, false), 60);
        is("half as it was", x.half(0), 61);
        x.go(3);
        is("back", x.back(), 1);
        is("half as in the image", x.half(0), 61);
        for (int i = 0; i < 5; i++) {
            x.part(0, 999);
        }
        is("small again", x.amount(0, 0) > 0 && x.amount(0, 0) < 1L << 40 ? 1 : 0, 1);
    }
}
