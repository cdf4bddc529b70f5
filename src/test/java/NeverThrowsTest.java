import java.util.Random;

/** No call throws but lease() as the document says, for any arguments in any state, amounts beyond a long too. */
public final class NeverThrowsTest {
    private NeverThrowsTest() {
    }

    public static void main(String[] args) {
        for (int seed = 0; seed < 400; seed++) {
            try {
                wild(new Random(seed));
                Check.yes("run " + seed, true);
            } catch (RuntimeException e) {
                Check.yes("run " + seed + " threw " + e, false);
                e.printStackTrace(System.out);
            }
        }
        Check.end();
    }

    private static void wild(Random r) {
        LeaseLedger x = new LeaseLedger();
        String rate = new String[] {"0", "1", "200000"}[r.nextInt(3)];
        Check.tell(x, "lease a 0 1 " + rate + ";pay a 1 48 99999;" + (r.nextBoolean() ? "tied a;" : "")
            + (r.nextBoolean() ? "early a;" : "") + "lease b 0 48 5;pay b 1 48 99999;option b 24 99999;option b 1 0;");
        if (r.nextInt(4) == 0) {
            Check.tell(x, "");
        }
        // Begun and kept from ending: each putOff to the end and one period more doubles what is due.
        int doubled = 0;
        for (int i = 0; i < 400; i++) {
            if (r.nextInt(3) == 0 && doubled < 70) {
                grow(x);
                doubled++;
            } else {
                call(x, r);
            }
        }
    }

    private static void grow(LeaseLedger x) {
        long term = Check.lease(x, 1, 1);
        if (term > 0) {
            x.putOff(1, (int) term - 1, (int) term);
            x.extend(1, 1);
        }
    }

    private static int number(Random r) {
        switch (r.nextInt(8)) {
            case 0: return r.nextInt();
            case 1: return r.nextInt(2001);
            case 2: return r.nextBoolean() ? Integer.MAX_VALUE : Integer.MIN_VALUE;
            case 3: return r.nextInt(80) - 1;
            default: return r.nextInt(4);
        }
    }

    private static long big(Random r) {
        switch (r.nextInt(4)) {
            case 0: return r.nextLong();
            case 1: return r.nextBoolean() ? Long.MAX_VALUE : Long.MIN_VALUE;
            default: return number(r);
        }
    }

    private static void call(LeaseLedger x, Random r) {
        int a = number(r);
        int b = number(r);
        int c = number(r);
        long v = big(r);
        switch (r.nextInt(46)) {
            case 0: x.feed(a, b, c, a, b); break;
            case 1: if (r.nextInt(9) == 0) { x.text(a); } break;
            case 2: x.fault(a); break;
            case 3: x.named(a); break;
            case 4: x.go(1 + r.nextInt(2)); break;
            case 5: x.go(a); break;
            case 6: Check.lease(x, a, b); break;
            case 7: x.amount(a, b); break;
            case 8: x.due(a, b); break;
            case 9: x.worth(a, b, c); break;
            case 10: x.index(a); break;
            case 11: x.account(a); break;
            case 12: x.entry(a, b); break;
            case 13: x.rate(a, b); break;
            case 14: x.extend(a, b); break;
            case 15: x.take(a); break;
            case 16: x.part(a, b); break;
            case 17: if (r.nextInt(9) == 0) { x.end(a); } break;
            case 18: x.down(a, v); break;
            case 19: x.putOff(a, b, c); break;
            case 20: x.become(a); break;
            case 21: x.plan(a, b, c); break;
            case 22: x.all(a); break;
            case 23: x.soon(a, b); break;
            case 24: x.sum(a, b); break;
            case 25: x.moved(a, b); break;
            case 26: x.choose(a); break;
            case 27: x.life(a, r.nextBoolean()); break;
            case 28: x.peak(a); break;
            case 29: x.partFor(a, v); break;
            case 30: x.latest(a, b); break;
            case 31: x.half(a); break;
            case 32: x.cash(a, b); break;
            case 33: x.ifIndex(a, b); break;
            case 34: x.ifTaken(a); break;
            case 35: x.yields(a, b, v); break;
            case 36: x.level(a, v); break;
            case 37: x.heaviest(); break;
            case 38: x.chance(a, b, c); break;
            case 39: x.undo(); break;
            case 40: x.keep(); break;
            case 41: if (r.nextInt(5) == 0) { x.back(); } break;
            case 42: x.count(a); break;
            default: x.become(500 + r.nextInt(1501)); break;
        }
    }
}
