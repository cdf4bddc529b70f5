import java.math.BigDecimal;
import java.math.BigInteger;
import java.math.RoundingMode;
import java.util.ArrayDeque;
import java.util.ArrayList;
import java.util.Arrays;
import java.util.Deque;
import java.util.HashMap;
import java.util.List;
import java.util.Map;
import java.util.Set;
import java.util.TreeMap;

/**
 * The document once more, written from its words alone, as slowly and plainly as it goes:
 * whole copies, no rings, exact arithmetic, scans in place of searches.
 */
final class Model {
    static final long NO = Long.MIN_VALUE;
    static final BigInteger ZERO = BigInteger.ZERO;
    static final Set<String> LANGUAGE =
        Set.of("lease", "pay", "early", "fair", "fee", "tied", "index", "option", "seed");

    static final class L {
        String name;
        int begins;
        int term;
        long rate;
        long fair = -1;
        long fee;
        boolean found;
        boolean early;
        boolean tied;
        boolean begun;
        boolean ended;
        int base;
        int indexed;
        int gone;
        BigInteger owed = ZERO;
        BigInteger used = ZERO;
        BigInteger began = ZERO;
        BigInteger interest = ZERO;
        BigInteger paid = ZERO;
        BigInteger measured = ZERO;
        BigInteger less = ZERO;
        TreeMap<Integer, BigInteger> due = new TreeMap<>();
        TreeMap<Integer, BigInteger> setting = new TreeMap<>();

        L copy() {
            L c = new L();
            c.name = name;
            c.begins = begins;
            c.term = term;
            c.rate = rate;
            c.fair = fair;
            c.fee = fee;
            c.found = found;
            c.early = early;
            c.tied = tied;
            c.begun = begun;
            c.ended = ended;
            c.base = base;
            c.indexed = indexed;
            c.gone = gone;
            c.owed = owed;
            c.used = used;
            c.began = began;
            c.interest = interest;
            c.paid = paid;
            c.measured = measured;
            c.less = less;
            c.due = new TreeMap<>(due);
            c.setting = new TreeMap<>(setting);
            return c;
        }

        boolean goesOn() {
            return begun && !ended;
        }

        BigInteger due(int k) {
            return due.getOrDefault(k, ZERO);
        }

        BigInteger setting(int k) {
            return setting.getOrDefault(k, ZERO);
        }

        BigInteger allDue() {
            BigInteger s = ZERO;
            for (int k = 1; k <= term; k++) {
                s = s.add(due(k));
            }
            return s;
        }

        BigInteger worth(int k, long r) {
            if (k > term) {
                return ZERO;
            }
            BigInteger behind = worth(k + 1, r);
            return early ? due(k).add(rounded(behind, 1000000, 1000000 + r))
                : rounded(behind.add(due(k)), 1000000, 1000000 + r);
        }

        void index(int v) {
            indexed = v;
            for (int k = gone + 1; k <= term; k++) {
                due.put(k, down(setting(k), v, base));
            }
        }

        void more(int n, BigInteger d, BigInteger s) {
            for (int i = 0; i < n; i++) {
                term++;
                due.put(term, d);
                setting.put(term, s);
            }
        }
    }

    static final class O {
        int lease;
        int more;
        long each;
        boolean taken;

        O copy() {
            O c = new O();
            c.lease = lease;
            c.more = more;
            c.each = each;
            c.taken = taken;
            return c;
        }
    }

    record Entry(int sort, int period, int lease, BigInteger[] amounts) {
    }

    static final class State {
        List<L> leases = new ArrayList<>();
        List<O> options = new ArrayList<>();
        List<Entry> entries = new ArrayList<>();
        TreeMap<Integer, Integer> told = new TreeMap<>();
        int[] index = new int[100];
        int period;
        long seed;

        State() {
            Arrays.fill(index, 1000);
        }

        State copy() {
            State c = new State();
            for (L l : leases) {
                c.leases.add(l.copy());
            }
            for (O o : options) {
                c.options.add(o.copy());
            }
            c.entries.addAll(entries);
            c.told.putAll(told);
            c.index = index.clone();
            c.period = period;
            c.seed = seed;
            return c;
        }

        void enter(int sort, int lease, BigInteger... amounts) {
            BigInteger together = ZERO;
            for (BigInteger a : amounts) {
                together = together.add(a);
            }
            if (together.signum() != 0 || amounts.length != 6) {
                throw new AssertionError("an entry that does not balance");
            }
            entries.add(new Entry(sort, period, lease, amounts));
        }

        BigInteger remeasure(int lease) {
            L l = leases.get(lease);
            BigInteger then = l.worth(l.gone + 1, l.rate);
            BigInteger more = then.subtract(l.owed);
            BigInteger usedThen = l.used.add(more);
            BigInteger gain = ZERO;
            if (usedThen.signum() < 0) {
                gain = usedThen.negate();
                usedThen = ZERO;
            }
            enter(2, lease, ZERO, more.negate(), usedThen.subtract(l.used), ZERO, ZERO, gain.negate());
            l.owed = then;
            l.used = usedThen;
            l.measured = l.measured.add(more);
            return more;
        }

        void become(int v) {
            Integer later = told.higherKey(period);
            for (int p = period; p < (later == null ? 100 : later); p++) {
                index[p] = v;
            }
        }

        void pass() {
            for (int i = 0; i < leases.size(); i++) {
                L l = leases.get(i);
                if (l.ended || !l.begun && l.begins != period) {
                    continue;
                }
                if (!l.begun) {
                    l.begun = true;
                    l.owed = l.worth(1, l.rate);
                    l.began = l.owed;
                    l.used = l.owed.add(BigInteger.valueOf(l.fee));
                    l.base = index[period];
                    l.indexed = l.base;
                    enter(0, i, BigInteger.valueOf(-l.fee), l.owed.negate(), l.used, ZERO, ZERO, ZERO);
                } else if (l.tied && index[period] != l.indexed) {
                    l.index(index[period]);
                    remeasure(i);
                }
                pay(i, l);
            }
            period++;
        }

        void pay(int i, L l) {
            int own = l.gone + 1;
            BigInteger d = l.due(own);
            boolean last = own == l.term;
            BigInteger was = l.owed;
            BigInteger interest;
            BigInteger then;
            if (!l.early) {
                if (last) {
                    interest = d.subtract(was);
                    then = ZERO;
                } else {
                    interest = rounded(was, l.rate, 1000000);
                    BigInteger above = d.subtract(was.add(interest));
                    if (above.signum() > 0) {
                        interest = interest.add(above);
                    }
                    then = was.add(interest).subtract(d);
                }
            } else {
                then = was.subtract(d).max(ZERO);
                then = then.add(rounded(then, l.rate, 1000000));
                if (last) {
                    then = ZERO;
                }
                interest = then.subtract(was).add(d);
            }
            BigInteger off = l.used.divide(BigInteger.valueOf(l.term - l.gone));
            enter(1, i, d.negate(), was.subtract(then), off.negate(), interest, off, ZERO);
            l.owed = then;
            l.used = l.used.subtract(off);
            l.interest = l.interest.add(interest);
            l.paid = l.paid.add(d);
            l.gone = own;
            l.ended = last;
        }

        BigInteger allOwed() {
            BigInteger s = ZERO;
            for (L l : leases) {
                s = s.add(l.owed);
            }
            return s;
        }

        BigInteger allPaid() {
            BigInteger s = ZERO;
            for (L l : leases) {
                s = s.add(l.paid);
            }
            return s;
        }

        List<Entry> kept() {
            return entries.subList(Math.max(0, entries.size() - 40), entries.size());
        }

        BigInteger takeNow(int option) {
            O o = options.get(option);
            L l = leases.get(o.lease);
            o.taken = true;
            l.more(o.more, BigInteger.valueOf(o.each), BigInteger.valueOf(o.each));
            if (l.tied) {
                l.index(index[period]);
            }
            return remeasure(o.lease);
        }

        boolean canTake(int option) {
            if (option < 0 || option >= options.size()) {
                return false;
            }
            O o = options.get(option);
            L l = leases.get(o.lease);
            return !o.taken && l.goesOn() && l.term + o.more <= 72;
        }

        State ahead(int n) {
            State s = copy();
            for (int i = 0; i < n && s.period < 99; i++) {
                s.pass();
            }
            return s;
        }
    }

    static BigInteger rounded(BigInteger x, long up, long under) {
        BigDecimal q = new BigDecimal(x.multiply(BigInteger.valueOf(up)))
            .divide(new BigDecimal(under), 30, RoundingMode.DOWN);
        return q.add(new BigDecimal("0.5")).setScale(0, RoundingMode.FLOOR).toBigIntegerExact();
    }

    static BigInteger down(BigInteger x, long up, long under) {
        return x.multiply(BigInteger.valueOf(up)).divide(BigInteger.valueOf(under));
    }

    List<Integer> tape = new ArrayList<>();
    int fault = 0;
    int place = -1;
    State now = new State();
    State image = null;
    Deque<State> past = new ArrayDeque<>();

    // ---- the text

    record Token(char sort, String text, int place) {
    }

    static final class Fault extends RuntimeException {
        final int sort;
        final int place;

        Fault(int sort, int place) {
            this.sort = sort;
            this.place = place;
        }
    }

    static List<Token> tokens(String text) {
        List<Token> all = new ArrayList<>();
        int i = 0;
        while (i < text.length()) {
            int from = i;
            char c = text.charAt(i);
            if (c == ' ' || c == '\n') {
                i++;
                continue;
            }
            String row = text.substring(i);
            String word = row.replaceFirst("(?s)[^a-z].*", "");
            String number = row.replaceFirst("(?s)[^0-9].*", "");
            if (!word.isEmpty()) {
                all.add(new Token(word.length() > 6 ? '?' : LANGUAGE.contains(word) ? 'k' : 'w', word, from));
                i += word.length();
            } else if (!number.isEmpty()) {
                all.add(new Token('n', number, from));
                i += number.length();
            } else {
                all.add(new Token(c == ';' ? ';' : '?', "" + c, from));
                i++;
            }
        }
        all.add(new Token('e', "", text.length()));
        return all;
    }

    static final Map<String, String> SHAPES = new HashMap<>();
    static {
        SHAPES.put("lease", "wnnn");
        SHAPES.put("pay", "wnnn");
        SHAPES.put("early", "w");
        SHAPES.put("fair", "wn");
        SHAPES.put("fee", "wn");
        SHAPES.put("tied", "w");
        SHAPES.put("index", "nn");
        SHAPES.put("option", "wnn");
        SHAPES.put("seed", "n");
    }

    int lines;

    State parse(String text) {
        State s = new State();
        Map<String, Integer> counts = new HashMap<>();
        List<String> once = new ArrayList<>();
        List<Token> ts = tokens(text);
        int at = 0;
        lines = 0;
        while (ts.get(at).sort() != 'e') {
            Token head = ts.get(at);
            if (head.sort() != 'k') {
                throw new Fault(1, head.place());
            }
            String kind = head.text();
            int sofar = counts.merge(kind, 1, Integer::sum);
            if (kind.equals("lease") && sofar > 4 || kind.equals("option") && sofar > 4
                || kind.equals("pay") && sofar > 12 || kind.equals("index") && sofar > 8) {
                throw new Fault(2, head.place());
            }
            if (kind.equals("seed") && sofar > 1) {
                throw new Fault(3, head.place());
            }
            String shape = SHAPES.get(kind);
            String name = "";
            int lease = -1;
            List<Long> numbers = new ArrayList<>();
            for (int i = 0; i < shape.length(); i++) {
                Token t = ts.get(at + 1 + i);
                if (t.sort() != shape.charAt(i)) {
                    throw new Fault(1, t.place());
                }
                if (t.sort() == 'w') {
                    name = t.text();
                    lease = find(s, name);
                    if (kind.equals("lease") && lease >= 0) {
                        throw new Fault(3, t.place());
                    }
                    if (!kind.equals("lease") && lease < 0) {
                        throw new Fault(4, t.place());
                    }
                    if (Set.of("early", "fair", "fee", "tied").contains(kind)) {
                        if (once.contains(kind + " " + name)) {
                            throw new Fault(3, t.place());
                        }
                        once.add(kind + " " + name);
                    }
                } else {
                    BigInteger v = new BigInteger(t.text());
                    long[] span = span(s, kind, numbers);
                    if (v.compareTo(BigInteger.valueOf(span[0])) < 0 || v.compareTo(BigInteger.valueOf(span[1])) > 0) {
                        throw new Fault(2, t.place());
                    }
                    numbers.add(v.longValueExact());
                }
            }
            at += 1 + shape.length();
            if (ts.get(at).sort() != ';') {
                throw new Fault(1, ts.get(at).place());
            }
            at++;
            lines++;
            apply(s, kind, name, lease, numbers);
        }
        for (L l : s.leases) {
            if (l.fair > 0) {
                long r = greatest(l, 1, l.fair);
                if (r >= 0) {
                    l.rate = r;
                    l.found = true;
                }
            }
        }
        return s;
    }

    static int find(State s, String name) {
        for (int i = 0; i < s.leases.size(); i++) {
            if (s.leases.get(i).name.equals(name)) {
                return i;
            }
        }
        return -1;
    }

    static long[] span(State s, String kind, List<Long> ahead) {
        int i = ahead.size();
        switch (kind) {
            case "lease": return new long[][] {{0, 20}, {1, 48}, {0, 200000}}[i];
            case "pay": return i == 0 ? new long[] {1, 48} : i == 1 ? new long[] {ahead.get(0), 48} : new long[] {0, 99999};
            case "fair": return new long[] {1, 9999999};
            case "fee": return new long[] {0, 99999};
            case "index": return i == 0 ? new long[] {s.told.isEmpty() ? 0 : s.told.lastKey() + 1, 99} : new long[] {500, 2000};
            case "option": return i == 0 ? new long[] {1, 24} : new long[] {0, 99999};
            default: return new long[] {0, 99999};
        }
    }

    static void apply(State s, String kind, String name, int lease, List<Long> n) {
        switch (kind) {
            case "lease": {
                L l = new L();
                l.name = name;
                l.begins = (int) (long) n.get(0);
                l.term = (int) (long) n.get(1);
                l.rate = n.get(2);
                s.leases.add(l);
                break;
            }
            case "pay":
                for (int k = (int) (long) n.get(0); k <= n.get(1); k++) {
                    s.leases.get(lease).due.merge(k, BigInteger.valueOf(n.get(2)), BigInteger::add);
                    s.leases.get(lease).setting.merge(k, BigInteger.valueOf(n.get(2)), BigInteger::add);
                }
                break;
            case "early": s.leases.get(lease).early = true; break;
            case "tied": s.leases.get(lease).tied = true; break;
            case "fair": s.leases.get(lease).fair = n.get(0); break;
            case "fee": s.leases.get(lease).fee = n.get(0); break;
            case "index":
                s.told.put((int) (long) n.get(0), (int) (long) n.get(1));
                for (int p = (int) (long) n.get(0); p < 100; p++) {
                    s.index[p] = (int) (long) n.get(1);
                }
                break;
            case "option": {
                O o = new O();
                o.lease = lease;
                o.more = (int) (long) n.get(0);
                o.each = n.get(1);
                s.options.add(o);
                break;
            }
            default: s.seed = n.get(0); break;
        }
    }

    /** Long arithmetic here, for a scan of all rates is long; its rounding is checked against worth(). */
    static long quickWorth(L l, int k, long r) {
        long w = 0;
        for (int i = l.term; i >= k; i--) {
            long x = l.early ? w : w + l.due(i).longValueExact();
            x = (x * 2000000 + 1000000 + r) / (2 * (1000000 + r));
            w = l.early ? l.due(i).longValueExact() + x : x;
        }
        return w;
    }

    static long greatest(L l, int k, long w) {
        if (l.allDue().bitLength() > 40) {
            return greatestOfMuch(l, k, BigInteger.valueOf(w));
        }
        for (long r = 200000; r >= 0; r--) {
            if (quickWorth(l, k, r) >= w) {
                return r;
            }
        }
        return -2;
    }

    /** Amounts for which long arithmetic is none: ever smaller steps down and up from the greatest rate. */
    static long greatestOfMuch(L l, int k, BigInteger w) {
        long r = 200000;
        for (long step = 10000; step >= 1; step /= 10) {
            while (r > 0 && l.worth(k, r).compareTo(w) < 0) {
                r = Math.max(0, r - step);
            }
            if (l.worth(k, r).compareTo(w) < 0) {
                return -2;
            }
            if (step > 1) {
                r = Math.min(200000, r + step);
            }
        }
        return r;
    }

    // ---- the calls

    int feed(int... five) {
        if (tape.size() > 680) {
            return -1;
        }
        for (int v : five) {
            for (int s = 24; s >= 0; s -= 8) {
                tape.add(v >>> s & 255);
            }
        }
        return tape.size();
    }

    int text(int n) {
        if (n < 0 || n > tape.size()) {
            return -2;
        }
        StringBuilder b = new StringBuilder();
        for (int i = 0; i < n; i++) {
            b.append((char) (int) tape.get(i));
        }
        tape.clear();
        try {
            now = parse(b.toString());
        } catch (Fault f) {
            fault = f.sort;
            place = f.place;
            return -1;
        }
        fault = 0;
        place = -1;
        image = null;
        past.clear();
        return lines;
    }

    int fault(int what) {
        return what == 0 ? fault : what == 1 ? place : -1;
    }

    int named(int letters) {
        for (int i = 0; i < now.leases.size(); i++) {
            if (Check.letters(now.leases.get(i).name) == letters) {
                return i;
            }
        }
        return -1;
    }

    void remember() {
        past.push(now.copy());
        if (past.size() > 20) {
            past.removeLast();
        }
    }

    int go(int n) {
        if (n < 1 || n > 12) {
            return -1;
        }
        if (now.period + n > 99) {
            return -2;
        }
        for (int i = 0; i < n; i++) {
            remember();
            now.pass();
        }
        return now.period;
    }

    L at(int lease) {
        return lease >= 0 && lease < now.leases.size() ? now.leases.get(lease) : null;
    }

    L on(int lease) {
        L l = at(lease);
        return l != null && l.goesOn() ? l : null;
    }

    long lease(int lease, int what) {
        L l = at(lease);
        if (l == null) {
            return Check.OUT;
        }
        switch (what) {
            case 0: return l.begins;
            case 1: return l.term;
            case 2: return l.rate;
            case 3: return l.ended ? 2 : l.begun ? 1 : 0;
            case 4: return l.ended ? 0 : l.term - l.gone;
            case 5: return l.base;
            case 6: return l.fee;
            case 7: return l.found ? 1 : 0;
            case 8: return l.indexed;
            default: return Check.NO_SUCH;
        }
    }

    long amount(int lease, int what) {
        L l = at(lease);
        return l == null || what < 0 || what > 1 ? -1 : (what == 0 ? l.owed : l.used).longValue();
    }

    long due(int lease, int k) {
        L l = at(lease);
        return l == null || k < 1 || k > l.term ? -1 : l.due(k).longValue();
    }

    long worth(int lease, int k, int rate) {
        L l = at(lease);
        return l == null || k < 1 || k > l.term || rate < 0 || rate > 1000000 ? -1
            : l.worth(k, rate).longValue();
    }

    int index(int period) {
        return period < 0 || period > 99 ? -1 : now.index[period];
    }

    long account(int account) {
        if (account < 0 || account > 5) {
            return NO;
        }
        BigInteger s = ZERO;
        for (Entry e : now.entries) {
            s = s.add(e.amounts()[account]);
        }
        return s.longValue();
    }

    long entry(int k, int what) {
        List<Entry> kept = now.kept();
        if (k < 0 || k >= kept.size()) {
            return NO;
        }
        Entry e = kept.get(kept.size() - 1 - k);
        switch (what) {
            case 0: return e.sort();
            case 1: return e.period();
            case 2: return e.lease();
            default: return what >= 10 && what <= 15 ? e.amounts()[what - 10].longValue() : NO;
        }
    }

    long rate(int lease, int rate) {
        if (on(lease) == null || rate < 0 || rate > 200000) {
            return NO;
        }
        remember();
        on(lease).rate = rate;
        return now.remeasure(lease).longValue();
    }

    long extend(int lease, int n) {
        L l = on(lease);
        if (l == null || n < 1 || n > 24 || l.term + n > 72) {
            return NO;
        }
        remember();
        l.more(n, l.due(l.term), l.setting(l.term));
        return now.remeasure(lease).longValue();
    }

    long take(int option) {
        if (!now.canTake(option)) {
            return NO;
        }
        remember();
        return now.takeNow(option).longValue();
    }

    long part(int lease, int p) {
        L l = on(lease);
        if (l == null || p < 1 || p > 999) {
            return NO;
        }
        remember();
        BigInteger o = down(l.owed, p, 1000);
        BigInteger u = down(l.used, p, 1000);
        now.enter(3, lease, ZERO, o, u.negate(), ZERO, ZERO, u.subtract(o));
        l.owed = l.owed.subtract(o);
        l.used = l.used.subtract(u);
        l.less = l.less.add(o);
        for (int k = l.gone + 1; k <= l.term; k++) {
            l.due.put(k, down(l.due(k), 1000 - p, 1000));
            l.setting.put(k, down(l.setting(k), 1000 - p, 1000));
        }
        return o.subtract(u).longValue();
    }

    long end(int lease) {
        L l = on(lease);
        if (l == null) {
            return NO;
        }
        remember();
        BigInteger gain = l.owed.subtract(l.used);
        now.enter(4, lease, ZERO, l.owed, l.used.negate(), ZERO, ZERO, gain.negate());
        l.less = l.less.add(l.owed);
        l.owed = ZERO;
        l.used = ZERO;
        l.ended = true;
        return gain.longValue();
    }

    long down(int lease, long v) {
        L l = on(lease);
        BigInteger big = BigInteger.valueOf(v);
        if (l == null || v < 1 || big.compareTo(l.used) > 0) {
            return NO;
        }
        remember();
        l.used = l.used.subtract(big);
        now.enter(5, lease, ZERO, ZERO, big.negate(), ZERO, ZERO, big);
        return l.used.longValue();
    }

    long putOff(int lease, int k, int j) {
        L l = on(lease);
        if (l == null || k <= l.gone || j <= l.gone || k > l.term || j > l.term || k >= j) {
            return NO;
        }
        remember();
        l.due.put(j, l.due(j).add(l.due(k)));
        l.setting.put(j, l.setting(j).add(l.setting(k)));
        l.due.put(k, ZERO);
        l.setting.put(k, ZERO);
        return now.remeasure(lease).longValue();
    }

    int become(int v) {
        if (v < 500 || v > 2000) {
            return -1;
        }
        remember();
        int was = now.index[now.period];
        now.become(v);
        return was;
    }

    long plan(int lease, int n, int what) {
        L l = at(lease);
        if (l == null || n < 0 || n > 72 || what < 0 || what > 3) {
            return -1;
        }
        L then = now.ahead(n).leases.get(lease);
        return new BigInteger[] {then.owed, then.used, then.paid.subtract(l.paid),
            then.interest.subtract(l.interest)}[what].longValue();
    }

    long all(int n) {
        return n < 0 || n > 72 ? -1 : now.ahead(n).allOwed().longValue();
    }

    long soon(int lease, int what) {
        if (at(lease) == null || what < 0 || what > 1) {
            return -1;
        }
        BigInteger then = now.ahead(12).leases.get(lease).owed;
        return (what == 1 ? then : at(lease).owed.subtract(then)).longValue();
    }

    long sum(int account, int sort) {
        if (account < 0 || account > 5 || sort < 0 || sort > 5) {
            return NO;
        }
        BigInteger s = ZERO;
        for (Entry e : now.kept()) {
            s = s.add(e.sort() == sort ? e.amounts()[account] : ZERO);
        }
        return s.longValue();
    }

    long moved(int lease, int what) {
        L l = at(lease);
        if (l == null || what < 0 || what > 4) {
            return NO;
        }
        return new BigInteger[] {l.began, l.interest, l.paid, l.measured, l.less}[what].longValue();
    }

    int choose(int lease) {
        if (at(lease) == null) {
            return -1;
        }
        if (on(lease) == null) {
            return -2;
        }
        int best = -1;
        BigInteger up = null;
        BigInteger under = null;
        sets:
        for (int set = 0; set < 16; set++) {
            State s = now.copy();
            for (int o = 0; o < 4; o++) {
                if ((set & 1 << o) != 0) {
                    if (!s.canTake(o) || s.options.get(o).lease != lease) {
                        continue sets;
                    }
                    s.takeNow(o);
                }
            }
            L l = s.leases.get(lease);
            BigInteger a = l.owed;
            BigInteger b = BigInteger.valueOf(l.term - l.gone);
            if (best < 0 || a.multiply(under).compareTo(up.multiply(b)) < 0) {
                best = set;
                up = a;
                under = b;
            }
        }
        return best;
    }

    long life(int lease, boolean below) {
        L l = at(lease);
        if (l == null) {
            return -1;
        }
        if (l.ended) {
            return -2;
        }
        BigInteger far = BigInteger.ZERO;
        BigInteger all = BigInteger.ZERO;
        for (int k = l.gone + 1; k <= l.term; k++) {
            // Own period k is PERIOD begins + k - 1.
            long off = l.begins + k - 1 - now.period;
            far = far.add(l.due(k).multiply(BigInteger.valueOf(off)));
            all = all.add(l.due(k));
        }
        if (all.signum() == 0) {
            return -2;
        }
        BigInteger g = far.gcd(all);
        return (below ? all : far).divide(g).longValue();
    }

    /** What all pay in each of the PERIODS ahead. */
    List<BigInteger> payments(int n) {
        List<BigInteger> paid = new ArrayList<>();
        State s = now.copy();
        for (int i = 0; i < n && s.period < 99; i++) {
            BigInteger was = s.allPaid();
            s.pass();
            paid.add(s.allPaid().subtract(was));
        }
        return paid;
    }

    long peak(int what) {
        if (what != 0 && what != 1) {
            return -1;
        }
        List<BigInteger> paid = payments(72);
        BigInteger most = ZERO;
        for (BigInteger p : paid) {
            most = most.max(p);
        }
        return most.signum() == 0 ? -2 : what == 1 ? most.longValue() : paid.indexOf(most);
    }

    int partFor(int lease, long g) {
        if (at(lease) == null) {
            return -1;
        }
        L l = on(lease);
        for (int p = 1; l != null && p <= 999; p++) {
            if (down(l.owed, p, 1000).subtract(down(l.used, p, 1000)).compareTo(BigInteger.valueOf(g)) >= 0) {
                return p;
            }
        }
        return -2;
    }

    int latest(int lease, int sort) {
        if (at(lease) == null || sort < 0 || sort > 5) {
            return -1;
        }
        int found = -2;
        for (Entry e : now.kept()) {
            if (e.lease() == lease && e.sort() == sort) {
                found = e.period();
            }
        }
        return found;
    }

    int half(int lease) {
        if (at(lease) == null || !at(lease).begun) {
            return -1;
        }
        BigInteger was = at(lease).owed;
        for (int n = 0; n <= 72 && now.period + n <= 99; n++) {
            BigInteger then = now.ahead(n).leases.get(lease).owed;
            if (then.add(then).compareTo(was) <= 0) {
                return n;
            }
        }
        return -2;
    }

    long cash(int i, int j) {
        if (i < 0 || i > 71 || j < 0 || j > 71 || i > j) {
            return -1;
        }
        List<BigInteger> paid = payments(72);
        BigInteger s = ZERO;
        for (int k = i; k <= j && k < paid.size(); k++) {
            s = s.add(paid.get(k));
        }
        return s.longValue();
    }

    long ifIndex(int lease, int v) {
        if (at(lease) == null || v < 500 || v > 2000) {
            return -1;
        }
        if (on(lease) == null) {
            return -2;
        }
        L l = on(lease).copy();
        if (l.tied) {
            l.index(v);
            return l.worth(l.gone + 1, l.rate).longValue();
        }
        return l.owed.longValue();
    }

    long ifTaken(int option) {
        return now.canTake(option) ? now.copy().takeNow(option).longValue() : NO;
    }

    long yields(int lease, int k, long w) {
        L l = at(lease);
        return l == null || k < 1 || k > l.term || w < 1 || w > 999999999 ? -1 : greatest(l, k, w);
    }

    /** Whether an answer of level() is the one that is due (a scan of all amounts is too long). */
    boolean isLevel(int lease, long w, int answer) {
        L l = at(lease);
        if (l == null || w < 1 || w > 999999999) {
            return answer == -1;
        }
        if (answer == -2) {
            return levelWorth(l, 9999999) < w;
        }
        return answer >= 0 && answer <= 9999999 && levelWorth(l, answer) >= w
            && (answer == 0 || levelWorth(l, answer - 1) < w);
    }

    static long levelWorth(L lease, long each) {
        L l = lease.copy();
        for (int k = 1; k <= l.term; k++) {
            l.due.put(k, BigInteger.valueOf(each));
        }
        return l.worth(1, l.rate).longValueExact();
    }

    int heaviest() {
        int best = -2;
        for (int i = 0; i < now.leases.size(); i++) {
            if (on(i) == null) {
                continue;
            }
            if (best == -2) {
                best = i;
                continue;
            }
            L a = on(i);
            L b = on(best);
            if (a.owed.multiply(BigInteger.valueOf(b.term - b.gone))
                .compareTo(b.owed.multiply(BigInteger.valueOf(a.term - a.gone))) > 0) {
                best = i;
            }
        }
        return best;
    }

    long chance(int seed, int n, int what) {
        if (seed < -1 || n < 1 || n > 10 || what < 0 || what > 2) {
            return -1;
        }
        if (now.period + 12 > 99) {
            return -2;
        }
        BigInteger x = BigInteger.valueOf(seed == -1 ? now.seed : seed);
        List<BigInteger> ends = new ArrayList<>();
        for (int i = 0; i < n; i++) {
            State s = now.copy();
            for (int p = 0; p < 12; p++) {
                x = x.multiply(BigInteger.valueOf(1103515245)).add(BigInteger.valueOf(12345)).mod(BigInteger.TWO.pow(31));
                int drawn = x.shiftRight(16).mod(BigInteger.valueOf(21)).intValueExact();
                s.become(Math.min(2000, Math.max(500, s.index[s.period] + drawn - 10)));
                s.pass();
            }
            ends.add(s.allOwed());
        }
        ends.sort(null);
        BigInteger sum = ZERO;
        for (BigInteger e : ends) {
            sum = sum.add(e);
        }
        return (what == 0 ? sum : what == 1 ? ends.get(ends.size() - 1) : ends.get(0)).longValue();
    }

    int undo() {
        if (past.isEmpty()) {
            return -1;
        }
        now = past.pop();
        return past.size();
    }

    int keep() {
        image = now.copy();
        return now.period;
    }

    int back() {
        if (image == null) {
            return -1;
        }
        now = image.copy();
        past.clear();
        return now.period;
    }

    int count(int what) {
        switch (what) {
            case 0: return now.leases.size();
            case 1: return now.options.size();
            case 2: return now.period;
            case 3: return now.kept().size();
            case 4: return now.entries.size();
            case 5: {
                int n = 0;
                for (L l : now.leases) {
                    n += l.goesOn() ? 1 : 0;
                }
                return n;
            }
            case 6: return past.size();
            case 7: return tape.size();
            default: return -1;
        }
    }
}
