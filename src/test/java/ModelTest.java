import java.math.BigInteger;
import java.util.Random;

/** Random runs of calls, each answer compared with the Model's. */
public final class ModelTest {
    private static final BigInteger MOST = BigInteger.valueOf(Long.MAX_VALUE);
    private static final String[] NAMES = {"a", "b", "cc", "ddd", "zzzzzz", "house", "paid"};

    private final Random random;
    private final LeaseLedger x = new LeaseLedger();
    private final Model m = new Model();
    private final StringBuilder told = new StringBuilder();

    private ModelTest(long seed) {
        random = new Random(seed);
        told.append("seed ").append(seed).append(": ");
    }

    public static void main(String[] args) {
        int runs = args.length > 0 ? Integer.parseInt(args[0]) : 80;
        long from = args.length > 1 ? Long.parseLong(args[1]) : 1;
        for (long seed = from; seed < from + runs && Check.wrong() == 0; seed++) {
            new ModelTest(seed).run();
        }
        for (long seed = from; seed < from + runs && Check.wrong() == 0; seed++) {
            new ModelTest(seed).muchRun();
        }
        for (long seed = from; seed < from + 20L * runs && Check.wrong() == 0; seed++) {
            new ModelTest(seed).texts();
        }
        Check.end();
    }

    private int in(int low, int high) {
        return (int) (low + (random.nextLong() >>> 1) % ((long) high - low + 1));
    }

    /** Mostly within the bounds, often at them, sometimes just beyond. */
    private int near(int low, int high) {
        switch (random.nextInt(14)) {
            case 0: return low;
            case 1: return high;
            case 2: return random.nextInt(6) == 0 ? low - 1 : low;
            case 3: return random.nextInt(6) == 0 ? high + 1 : high;
            default: return in(low, high);
        }
    }

    private int any(int low, int high) {
        switch (random.nextInt(40)) {
            case 0: return low - 1;
            case 1: return high + 1;
            case 2: return Integer.MIN_VALUE;
            case 3: return Integer.MAX_VALUE;
            default: return in(low, high);
        }
    }

    private void same(String call, long got, long want) {
        told.append(call).append("=").append(want).append(", ");
        state(call, got, want);
    }

    private void state(String call, long got, long want) {
        Check.due(got == want ? call : told + "\n  " + call, got, want);
    }

    private void run() {
        tell(text(false), true);
        int calls = in(20, 120);
        for (int i = 0; i < calls && Check.wrong() == 0; i++) {
            if (random.nextInt(3) == 0) {
                deed();
            } else {
                ask();
            }
            if (random.nextInt(12) == 0) {
                whole();
            }
        }
        whole();
    }

    /** Amounts that grow to a long's bounds and far beyond them. */
    private void muchRun() {
        tell(shortText(), true);
        int n = in(1, 3);
        same("go(" + n + ")", x.go(n), m.go(n));
        int calls = in(30, 100);
        for (int i = 0; i < calls && Check.wrong() == 0; i++) {
            switch (random.nextInt(i < 6 ? 2 : 6)) {
                case 0: grow(lease(), in(1, 40)); break;
                case 1: if (random.nextInt(4) == 0) { deed(); } break;
                default: ask(); break;
            }
            if (random.nextInt(20) == 0) {
                whole();
            }
        }
        whole();
    }

    private String shortText() {
        StringBuilder b = new StringBuilder();
        int leases = in(1, 4);
        for (int i = 0; i < leases; i++) {
            String w = " " + NAMES[i];
            int rate = new int[] {0, 1, 10000, 200000}[random.nextInt(4)];
            b.append("lease").append(w).append(" ").append(random.nextInt(4) == 0 ? in(0, 3) : 0).append(" ").append(in(2, 6))
                .append(" ").append(rate).append(";pay").append(w).append(" 1 ").append(in(2, 48)).append(" ")
                .append(in(1, 99999)).append(";");
            b.append(random.nextInt(2) == 0 ? "early" + w + ";" : "");
            b.append(random.nextInt(2) == 0 ? "tied" + w + ";" : "");
        }
        for (int i = 0; i < 4; i++) {
            b.append("option ").append(NAMES[random.nextInt(leases)]).append(" ").append(in(1, 9)).append(" ")
                .append(in(0, 99999)).append(";");
        }
        b.append(random.nextInt(2) == 0 ? "index 2 777;index 9 2000;" : "index 0 500;index 5 1999;");
        return b.toString();
    }

    /** Each period more, with the payment ahead put off to it, doubles what is due last. */
    private void grow(int l, int times) {
        for (int i = 0; i < times && m.on(l) != null && m.on(l).term < 72; i++) {
            same("extend(" + l + ",1)", x.extend(l, 1), m.extend(l, 1));
            int t = m.on(l).term;
            same("putOff(" + l + "," + (t - 1) + "," + t + ")", x.putOff(l, t - 1, t), m.putOff(l, t - 1, t));
        }
    }

    private void texts() {
        for (int i = 0; i < 6; i++) {
            String text = text(true);
            if (random.nextInt(2) == 0) {
                text = bend(text);
            }
            tell(text, false);
        }
    }

    private void tell(String text, boolean exact) {
        if (text.length() > 700) {
            text = text.substring(0, text.lastIndexOf(';', 699) + 1);
        }
        byte[] bytes = Check.bytes(text);
        for (int at = 0; at < bytes.length; at += 20) {
            int[] f = new int[5];
            for (int i = 0; i < 20; i++) {
                f[i / 4] = f[i / 4] << 8 | (at + i < bytes.length ? bytes[at + i] & 255 : 32);
            }
            same("feed", x.feed(f[0], f[1], f[2], f[3], f[4]), m.feed(f));
        }
        int n = exact || random.nextInt(10) != 0 ? bytes.length : any(0, bytes.length);
        same("text(" + n + ") of \"" + text + "\"", x.text(n), m.text(n));
        same("fault(0)", x.fault(0), m.fault(0));
        same("fault(1)", x.fault(1), m.fault(1));
        if (!exact) {
            same("count(0)", x.count(0), m.count(0));
            same("count(1)", x.count(1), m.count(1));
            same("count(7)", x.count(7), m.count(7));
            for (int i = 0; i < m.count(0); i++) {
                for (int w = 0; w < 9; w++) {
                    same("lease(" + i + "," + w + ")", Check.lease(x, i, w), m.lease(i, w));
                }
            }
        }
    }

    private String gap() {
        switch (random.nextInt(12)) {
            case 0: return "\n";
            case 1: return "  ";
            default: return " ";
        }
    }

    private int number(boolean edges, int low, int high) {
        return edges ? near(low, high) : in(low, high);
    }

    private String text(boolean edges) {
        StringBuilder b = new StringBuilder();
        int leases = in(1, edges ? 5 : 4);
        int last = -1;
        int indexes = 0;
        int most = in(2, 16);
        boolean small = random.nextInt(3) == 0;
        int topRate = new int[] {200000, 20000, 5000, 0}[random.nextInt(4)];
        for (int i = 0; i < leases; i++) {
            String w = gap() + NAMES[edges && random.nextInt(12) == 0 ? 0 : i];
            int term = small ? in(1, 5) : number(edges, 1, 48);
            b.append("lease").append(w).append(gap()).append(number(edges, 0, small ? 4 : 20)).append(gap())
                .append(term).append(gap()).append(in(0, topRate)).append(";");
        }
        for (int i = 0; i < most; i++) {
            String w = gap() + NAMES[edges && random.nextInt(20) == 0 ? 5 : random.nextInt(leases)];
            switch (random.nextInt(edges ? 9 : 7)) {
                case 0:
                case 1:
                case 2: {
                    int from = number(edges, 1, random.nextInt(2) == 0 ? 3 : 30);
                    int to = edges && random.nextInt(20) == 0 ? from - 1 : in(Math.max(1, from), 48);
                    b.append("pay").append(w).append(gap()).append(from).append(gap()).append(to).append(gap())
                        .append(number(edges, 0, new int[] {99999, 3000, 50}[random.nextInt(3)])).append(";");
                    break;
                }
                case 3: b.append("option").append(w).append(gap()).append(number(edges, 1, 24)).append(gap())
                    .append(number(edges, 0, 5000)).append(";"); break;
                case 4:
                case 5: {
                    if (indexes >= 8 && !edges || last >= 95) {
                        break;
                    }
                    last = edges && random.nextInt(8) == 0 ? Math.max(0, last) : in(last + 1, Math.min(99, last + 15));
                    indexes++;
                    b.append("index").append(gap()).append(last).append(gap()).append(number(edges, 500, 2000)).append(";");
                    break;
                }
                case 7: b.append("early").append(w).append(";"); break;
                case 8: b.append("fee").append(w).append(" 3;"); break;
                default: break;
            }
        }
        for (int i = 0; i < leases; i++) {
            String w = gap() + NAMES[i];
            b.append(random.nextInt(2) == 0 ? "early" + w + ";" : "");
            b.append(random.nextInt(2) == 0 ? "tied" + w + ";" : "");
            b.append(random.nextInt(4) == 0 ? "fair" + w + " " + number(edges, 1, 99999) + ";" : "");
            b.append(random.nextInt(3) == 0 ? "fee" + w + " " + number(edges, 0, 9999) + ";" : "");
        }
        if (random.nextInt(2) == 0) {
            b.append("seed ").append(number(edges, 0, 99999)).append(";");
        }
        return b.toString();
    }

    /** Changes a few bytes, so that faults come. */
    private String bend(String text) {
        StringBuilder b = new StringBuilder(text);
        String signs = "; \nabclease0159A;" + (char) 233 + (char) 0;
        int changes = in(1, 2);
        for (int i = 0; i < changes && b.length() > 1; i++) {
            int at = random.nextInt(b.length());
            switch (random.nextInt(4)) {
                case 0: b.deleteCharAt(at); break;
                case 1: b.insert(at, signs.charAt(random.nextInt(signs.length()))); break;
                case 2: b.setCharAt(at, signs.charAt(random.nextInt(signs.length()))); break;
                default: b.setLength(at); break;
            }
        }
        return b.toString();
    }

    private int lease() {
        int n = m.count(0);
        return random.nextInt(25) == 0 ? any(0, 3) : n == 0 ? 0 : random.nextInt(n);
    }

    private int own(int l) {
        return m.at(l) == null ? in(0, 3) : any(1, m.at(l).term);
    }

    private int ownLeft(int l) {
        return m.at(l) == null ? in(0, 3) : any(Math.min(m.at(l).gone + 1, m.at(l).term), m.at(l).term);
    }

    private void deed() {
        int l = lease();
        switch (random.nextInt(16)) {
            case 0: case 1: case 2: {
                int n = random.nextInt(3) == 0 ? any(1, 12) : in(1, 3);
                same("go(" + n + ")", x.go(n), m.go(n));
                break;
            }
            case 3: {
                int r = random.nextInt(2) == 0 ? any(0, 200000) : in(0, 3000);
                same("rate(" + l + "," + r + ")", x.rate(l, r), m.rate(l, r));
                break;
            }
            case 4: {
                int n = random.nextInt(2) == 0 ? any(1, 24) : in(1, 3);
                same("extend(" + l + "," + n + ")", x.extend(l, n), m.extend(l, n));
                break;
            }
            case 5: case 6: {
                int o = any(0, 3);
                same("take(" + o + ")", x.take(o), m.take(o));
                break;
            }
            case 7: {
                int p = any(1, 999);
                same("part(" + l + "," + p + ")", x.part(l, p), m.part(l, p));
                break;
            }
            case 8: {
                if (random.nextInt(4) == 0) {
                    same("end(" + l + ")", x.end(l), m.end(l));
                }
                break;
            }
            case 9: {
                long used = m.at(l) == null ? 5 : m.at(l).used.min(MOST).longValue();
                long v = random.nextInt(5) == 0 ? used + in(0, 1) : (long) (random.nextDouble() * used * 0.999);
                same("down(" + l + "," + v + ")", x.down(l, v), m.down(l, v));
                break;
            }
            case 10: case 11: {
                int k = ownLeft(l);
                int j = ownLeft(l);
                same("putOff(" + l + "," + k + "," + j + ")", x.putOff(l, k, j), m.putOff(l, k, j));
                break;
            }
            case 12: {
                int v = random.nextInt(2) == 0 ? any(500, 2000) : in(950, 1050);
                same("become(" + v + ")", x.become(v), m.become(v));
                break;
            }
            case 13: same("undo()", x.undo(), m.undo()); break;
            case 14: same("keep()", x.keep(), m.keep()); break;
            default:
                if (random.nextInt(3) == 0) {
                    same("back()", x.back(), m.back());
                }
                break;
        }
    }

    private void ask() {
        int l = lease();
        switch (random.nextInt(25)) {
            case 0: {
                int k = own(l);
                int r = random.nextInt(2) == 0 ? any(0, 1000000) : in(0, 9999);
                same("worth(" + l + "," + k + "," + r + ")", x.worth(l, k, r), m.worth(l, k, r));
                break;
            }
            case 1: {
                int n = any(0, 72);
                int w = any(0, 3);
                same("plan(" + l + "," + n + "," + w + ")", x.plan(l, n, w), m.plan(l, n, w));
                break;
            }
            case 2: {
                int n = any(0, 72);
                same("all(" + n + ")", x.all(n), m.all(n));
                break;
            }
            case 3: {
                int w = any(0, 1);
                same("soon(" + l + "," + w + ")", x.soon(l, w), m.soon(l, w));
                break;
            }
            case 4: case 5: same("choose(" + l + ")", x.choose(l), m.choose(l)); break;
            case 6: same("life(" + l + ",false)", x.life(l, false), m.life(l, false)); break;
            case 7: same("life(" + l + ",true)", x.life(l, true), m.life(l, true)); break;
            case 8: {
                int w = any(0, 1);
                same("peak(" + w + ")", x.peak(w), m.peak(w));
                break;
            }
            case 9: case 10: {
                long diff = m.at(l) == null ? 3
                    : m.at(l).owed.subtract(m.at(l).used).min(MOST).max(MOST.negate()).longValue();
                long g = random.nextInt(9) == 0 ? random.nextLong()
                    : (long) (random.nextDouble() * diff * 1.1) + in(-1, 1);
                same("partFor(" + l + "," + g + ")", x.partFor(l, g), m.partFor(l, g));
                break;
            }
            case 11: {
                int s = any(0, 5);
                same("latest(" + l + "," + s + ")", x.latest(l, s), m.latest(l, s));
                break;
            }
            case 12: same("half(" + l + ")", x.half(l), m.half(l)); break;
            case 13: {
                int i = any(0, 71);
                int j = random.nextInt(2) == 0 ? any(0, 71) : Math.min(71, Math.max(i, i + in(0, 9)));
                same("cash(" + i + "," + j + ")", x.cash(i, j), m.cash(i, j));
                break;
            }
            case 14: {
                int v = any(500, 2000);
                same("ifIndex(" + l + "," + v + ")", x.ifIndex(l, v), m.ifIndex(l, v));
                break;
            }
            case 15: {
                int o = any(0, 3);
                same("ifTaken(" + o + ")", x.ifTaken(o), m.ifTaken(o));
                break;
            }
            case 16: {
                int k = own(l);
                long w = random.nextInt(4) == 0 ? any(1, 999999999) : worthNear(l, k);
                same("yields(" + l + "," + k + "," + w + ")", x.yields(l, k, w), m.yields(l, k, w));
                break;
            }
            case 17: {
                long w = random.nextInt(3) == 0 ? any(1, 999999999) : worthNear(l, 1);
                int got = x.level(l, w);
                same("level(" + l + "," + w + ") " + got, m.isLevel(l, w, got) ? 1 : 0, 1);
                break;
            }
            case 18: same("heaviest()", x.heaviest(), m.heaviest()); break;
            case 19: case 20: {
                int s = any(-1, 2147483646);
                int n = any(1, 10);
                int w = any(0, 2);
                same("chance(" + s + "," + n + "," + w + ")", x.chance(s, n, w), m.chance(s, n, w));
                break;
            }
            case 21: {
                int a = any(0, 5);
                int s = any(0, 5);
                same("sum(" + a + "," + s + ")", x.sum(a, s), m.sum(a, s));
                break;
            }
            case 22: {
                int w = any(0, 4);
                same("moved(" + l + "," + w + ")", x.moved(l, w), m.moved(l, w));
                break;
            }
            case 23: {
                int c = random.nextInt(3) == 0 ? random.nextInt() : Check.letters(NAMES[random.nextInt(NAMES.length)]);
                same("named(" + c + ")", x.named(c), m.named(c));
                break;
            }
            default: {
                int k = any(0, 41);
                int w = any(0, 15);
                same("entry(" + k + "," + w + ")", x.entry(k, w), m.entry(k, w));
                break;
            }
        }
    }

    private long worthNear(int l, int k) {
        if (m.at(l) == null || k < 1 || k > m.at(l).term) {
            return 7;
        }
        return m.at(l).worth(k, in(0, 210000)).min(MOST).longValue() + in(-1, 1);
    }

    /** All that can be asked of the state itself. */
    private void whole() {
        for (int w = -1; w < 9; w++) {
            state("count(" + w + ")", x.count(w), m.count(w));
        }
        for (int a = -1; a < 7; a++) {
            state("account(" + a + ")", x.account(a), m.account(a));
        }
        for (int p = -1; p < 101; p++) {
            state("index(" + p + ")", x.index(p), m.index(p));
        }
        for (int k = -1; k < 42; k++) {
            for (int w = -1; w < 17; w++) {
                state("entry(" + k + "," + w + ")", x.entry(k, w), m.entry(k, w));
            }
        }
        for (int l = -1; l < 5; l++) {
            for (int w = -1; w < 10; w++) {
                state("lease(" + l + "," + w + ")", Check.lease(x, l, w), m.lease(l, w));
                state("amount(" + l + "," + w + ")", x.amount(l, w), m.amount(l, w));
                state("moved(" + l + "," + w + ")", x.moved(l, w), m.moved(l, w));
            }
            for (int k = -1; k < 74; k++) {
                state("due(" + l + "," + k + ")", x.due(l, k), m.due(l, k));
            }
        }
    }
}
