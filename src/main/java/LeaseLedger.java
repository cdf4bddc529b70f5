import java.util.Arrays;
import java.util.NoSuchElementException;

/** A ledger of leases told as a text; ../shared/DOC.md says what each call answers. */
public final class LeaseLedger {
    public static final int NONE = -1;

    private static final int REFUSED = -2;
    private static final long NO_AMOUNT = -9223372036854775808L;

    private static final int MOST_TAPE = 700;
    private static final int MOST_LEASES = 4;
    private static final int MOST_PAYS = 12;
    private static final int MOST_OPTIONS = 4;
    private static final int MOST_INDEXES = 8;
    private static final int MOST_TERM = 72;
    private static final int MOST_TOLD_TERM = 48;
    private static final int MOST_MORE = 24;
    private static final int MOST_RATE = 200000;
    private static final int MOST_ASKED_RATE = 1000000;
    private static final int MOST_LEVEL = 9999999;
    private static final int MOST_WORTH = 999999999;
    private static final int MOST_UNDONE = 20;
    private static final int MOST_AHEAD = 72;
    private static final int YEAR = 12;
    private static final int LAST_PERIOD = 99;
    private static final int LEAST_INDEX = 500;
    private static final int MOST_INDEX = 2000;
    private static final int FIRST_INDEX = 1000;

    private static final long MILLION = 1000000L;
    private static final long THOUSAND = 1000L;

    private static final int WAITING = 0;
    private static final int RUNNING = 1;
    private static final int ENDED = 2;

    private static final int CASH = 0;
    private static final int OWED = 1;
    private static final int USED = 2;
    private static final int INTEREST = 3;
    private static final int WRITTEN_OFF = 4;
    private static final int GAIN = 5;
    private static final int ACCOUNTS = 6;

    private static final int SORT_BEGUN = 0;
    private static final int SORT_PERIOD = 1;
    private static final int SORT_MEASURED = 2;
    private static final int SORT_PART = 3;
    private static final int SORT_ENDED = 4;
    private static final int SORT_DOWN = 5;
    private static final int SORTS = 6;

    private static final int MOVED_BEGUN = 0;
    private static final int MOVED_INTEREST = 1;
    private static final int MOVED_PAID = 2;
    private static final int MOVED_MEASURED = 3;
    private static final int MOVED_LESS = 4;
    private static final int MOVED = 5;

    private static final Kind[] KINDS = Kind.values();

    private final byte[] tape = new byte[MOST_TAPE];
    private int tapeSize;
    private Book book = new Book();
    private Book spare = new Book();
    private final Reader reader = new Reader(tape, spare);
    private final Book image = new Book();
    private boolean imageKept;
    private final Book[] past = new Book[MOST_UNDONE];
    private int pastFirst;
    private int pastCount;
    private final Amount first = new Amount();
    private final Amount second = new Amount();
    private final Amount third = new Amount();

    /** All rows are made here and used again: no call makes one, however many calls a run has. */
    public LeaseLedger() {
        for (int i = 0; i < MOST_UNDONE; i++) {
            past[i] = new Book();
        }
    }

    public int feed(int a, int b, int c, int d, int e) {
        if (tapeSize + 20 > MOST_TAPE) {
            return NONE;
        }
        putOnTape(a);
        putOnTape(b);
        putOnTape(c);
        putOnTape(d);
        putOnTape(e);
        return tapeSize;
    }

    public int text(int n) {
        if (n < 0 || n > tapeSize) {
            return REFUSED;
        }
        Book fresh = spare;
        fresh.clear();
        reader.begin(n, fresh);
        reader.read();
        tapeSize = 0;
        if (reader.fault != 0) {
            return NONE;
        }
        fresh.findRates(first);
        spare = book;
        book = fresh;
        imageKept = false;
        forgetPast();
        return reader.lines;
    }

    public int fault(int what) {
        switch (what) {
            case 0: return reader.fault;
            case 1: return reader.place;
            default: return NONE;
        }
    }

    public int named(int letters) {
        return book.leaseNamed(letters);
    }

    public int go(int n) {
        if (n < 1 || n > 12) {
            return NONE;
        }
        if (book.period + n > LAST_PERIOD) {
            return REFUSED;
        }
        for (int i = 0; i < n; i++) {
            remember();
            book.periodGoesBy();
        }
        return book.period;
    }

    public int lease(int lease, int what) throws IndexOutOfBoundsException, NoSuchElementException {
        Lease x = leaseAt(lease);
        if (x == null) {
            throw new IndexOutOfBoundsException("no such lease");
        }
        switch (what) {
            case 0: return x.start;
            case 1: return x.term;
            case 2: return x.rate;
            case 3: return x.stage;
            case 4: return x.left();
            case 5: return x.base;
            case 6: return x.fee;
            case 7: return x.found ? 1 : 0;
            case 8: return x.indexed;
            default: throw new NoSuchElementException("no such what");
        }
    }

    public long amount(int lease, int what) {
        Lease x = leaseAt(lease);
        if (x == null || what < 0 || what > 1) {
            return NONE;
        }
        return (what == 0 ? x.owed : x.used).asLong();
    }

    public long due(int lease, int k) {
        Lease x = leaseAt(lease);
        if (x == null || !x.owns(k)) {
            return NONE;
        }
        x.due.copyTo(k - 1, first);
        return first.asLong();
    }

    public long worth(int lease, int k, int rate) {
        Lease x = leaseAt(lease);
        if (x == null || !x.owns(k) || rate < 0 || rate > MOST_ASKED_RATE) {
            return NONE;
        }
        x.worthFrom(k - 1, rate, first);
        return first.asLong();
    }

    public int index(int period) {
        if (period < 0 || period > LAST_PERIOD) {
            return NONE;
        }
        return book.indexes[period];
    }

    public long account(int account) {
        if (account < 0 || account >= ACCOUNTS) {
            return NO_AMOUNT;
        }
        return book.journal.accounts[account];
    }

    public long entry(int k, int what) {
        boolean head = what >= 0 && what < Journal.HEAD;
        boolean amount = what >= 10 && what < 10 + ACCOUNTS;
        if (k < 0 || k >= book.journal.kept() || !head && !amount) {
            return NO_AMOUNT;
        }
        return book.journal.told(k, head ? what : what - 10 + Journal.HEAD);
    }

    public long rate(int lease, int rate) {
        Lease x = runningAt(lease);
        if (x == null || rate < 0 || rate > MOST_RATE) {
            return NO_AMOUNT;
        }
        remember();
        x.rate = rate;
        return book.remeasure(lease, x);
    }

    public long extend(int lease, int n) {
        Lease x = runningAt(lease);
        if (x == null || n < 1 || n > MOST_MORE || x.term + n > MOST_TERM) {
            return NO_AMOUNT;
        }
        remember();
        x.goOnAsLast(n);
        return book.remeasure(lease, x);
    }

    public long take(int option) {
        if (!book.canTake(option)) {
            return NO_AMOUNT;
        }
        remember();
        Option o = book.options[option];
        o.taken = true;
        Lease x = book.leases[o.lease];
        book.goOnByOption(x, o);
        return book.remeasure(o.lease, x);
    }

    public long part(int lease, int p) {
        Lease x = runningAt(lease);
        if (x == null || p < 1 || p > 999) {
            return NO_AMOUNT;
        }
        remember();
        long gain = book.giveBack(lease, x, p, SORT_PART);
        x.keepPart(THOUSAND - p);
        return gain;
    }

    public long end(int lease) {
        Lease x = runningAt(lease);
        if (x == null) {
            return NO_AMOUNT;
        }
        remember();
        x.stage = ENDED;
        return book.giveBack(lease, x, THOUSAND, SORT_ENDED);
    }

    public long down(int lease, long v) {
        Lease x = runningAt(lease);
        if (x == null || v < 1 || !x.used.isAtLeast(v)) {
            return NO_AMOUNT;
        }
        remember();
        book.writeDown(lease, x, v);
        return x.used.asLong();
    }

    public long putOff(int lease, int k, int j) {
        Lease x = runningAt(lease);
        if (x == null || k <= x.gone || k >= j || !x.owns(k) || !x.owns(j)) {
            return NO_AMOUNT;
        }
        remember();
        x.movePayment(k - 1, j - 1);
        return book.remeasure(lease, x);
    }

    public int become(int index) {
        if (!isIndex(index)) {
            return NONE;
        }
        remember();
        int was = book.indexNow();
        book.changeIndex(index);
        return was;
    }

    public long plan(int lease, int n, int what) {
        Lease x = leaseAt(lease);
        if (x == null || n < 0 || n > MOST_AHEAD || what < 0 || what > 3) {
            return NONE;
        }
        Lease then = bookIn(n).leases[lease];
        switch (what) {
            case 0: return then.owed.asLong();
            case 1: return then.used.asLong();
            case 2: return then.moved[MOVED_PAID] - x.moved[MOVED_PAID];
            default: return then.moved[MOVED_INTEREST] - x.moved[MOVED_INTEREST];
        }
    }

    public long all(int n) {
        if (n < 0 || n > MOST_AHEAD) {
            return NONE;
        }
        bookIn(n).countAllOwed(first);
        return first.asLong();
    }

    public long soon(int lease, int what) {
        Lease x = leaseAt(lease);
        if (x == null || what < 0 || what > 1) {
            return NONE;
        }
        long then = bookIn(YEAR).leases[lease].owed.asLong();
        return what == 0 ? x.owed.asLong() - then : then;
    }

    public long sum(int account, int sort) {
        if (account < 0 || account >= ACCOUNTS || !isSort(sort)) {
            return NO_AMOUNT;
        }
        long together = 0;
        int kept = book.journal.kept();
        for (int k = 0; k < kept; k++) {
            if (book.journal.told(k, 0) == sort) {
                together += book.journal.told(k, Journal.HEAD + account);
            }
        }
        return together;
    }

    public long moved(int lease, int what) {
        Lease x = leaseAt(lease);
        if (x == null || what < 0 || what >= MOVED) {
            return NO_AMOUNT;
        }
        return x.moved[what];
    }

    public int choose(int lease) {
        if (leaseAt(lease) == null) {
            return NONE;
        }
        Lease x = runningAt(lease);
        if (x == null) {
            return REFUSED;
        }
        Lease trial = spare.leases[0];
        Amount owed = first;
        Amount bestOwed = second;
        bestOwed.copyFrom(x.owed);
        int best = 0;
        int bestLeft = x.left();
        for (int set = 1; set < 1 << MOST_OPTIONS; set++) {
            if (!book.canTakeSet(lease, set)) {
                continue;
            }
            trial.copyFrom(x);
            book.goOnBySet(trial, set);
            trial.worthLeft(owed);
            if (bestOwed.isGreaterShare(bestLeft, owed, trial.left())) {
                best = set;
                bestOwed.copyFrom(owed);
                bestLeft = trial.left();
            }
        }
        return best;
    }

    public long life(int lease, boolean under) {
        Lease x = leaseAt(lease);
        if (x == null) {
            return NONE;
        }
        Amount far = first;
        Amount together = second;
        far.set(0L);
        together.set(0L);
        int off = x.stage == WAITING ? x.start - book.period : 0;
        for (int i = x.term - x.left(); i < x.term; i++) {
            x.due.copyTo(i, third);
            together.add(third);
            third.times(off);
            far.add(third);
            off++;
        }
        if (together.isZero()) {
            return REFUSED;
        }
        return leastTerm(far, together, under);
    }

    public long peak(int what) {
        if (what < 0 || what > 1) {
            return NONE;
        }
        Book ahead = bookIn(0);
        int coming = coming(MOST_AHEAD);
        Amount most = first;
        most.set(0L);
        int when = 0;
        for (int i = 0; i < coming; i++) {
            ahead.periodGoesBy();
            if (ahead.paid.isAbove(most)) {
                most.copyFrom(ahead.paid);
                when = i;
            }
        }
        if (most.isZero()) {
            return REFUSED;
        }
        return what == 0 ? when : most.asLong();
    }

    public int partFor(int lease, long g) {
        if (leaseAt(lease) == null) {
            return NONE;
        }
        Lease x = runningAt(lease);
        if (x == null) {
            return REFUSED;
        }
        for (int p = 1; p <= 999; p++) {
            first.copyFrom(x.owed);
            first.shareDown(p, THOUSAND);
            second.copyFrom(x.used);
            second.shareDown(p, THOUSAND);
            first.subtract(second);
            if (first.isAtLeast(g)) {
                return p;
            }
        }
        return REFUSED;
    }

    public int latest(int lease, int sort) {
        if (leaseAt(lease) == null || !isSort(sort)) {
            return NONE;
        }
        int kept = book.journal.kept();
        for (int k = 0; k < kept; k++) {
            if (book.journal.told(k, 0) == sort && book.journal.told(k, 2) == lease) {
                return (int) book.journal.told(k, 1);
            }
        }
        return REFUSED;
    }

    public int half(int lease) {
        Lease x = leaseAt(lease);
        if (x == null || x.stage == WAITING) {
            return NONE;
        }
        if (x.owed.isZero()) {
            return 0;
        }
        Book ahead = bookIn(0);
        int coming = coming(MOST_AHEAD);
        for (int i = 1; i <= coming; i++) {
            ahead.periodGoesBy();
            // As shares, so that half of an odd amount isn't rounded.
            if (!ahead.leases[lease].owed.isGreaterShare(1, x.owed, 2)) {
                return i;
            }
        }
        return REFUSED;
    }

    public long cash(int i, int j) {
        if (i < 0 || j >= MOST_AHEAD || i > j) {
            return NONE;
        }
        Book ahead = bookIn(0);
        int coming = coming(j + 1);
        long together = 0;
        for (int at = 0; at < coming; at++) {
            ahead.periodGoesBy();
            if (at >= i) {
                together += ahead.paid.asLong();
            }
        }
        return together;
    }

    public long ifIndex(int lease, int v) {
        if (leaseAt(lease) == null || !isIndex(v)) {
            return NONE;
        }
        Lease x = runningAt(lease);
        if (x == null) {
            return REFUSED;
        }
        if (!x.tied) {
            return x.owed.asLong();
        }
        Lease trial = spare.leases[0];
        trial.copyFrom(x);
        trial.followIndex(v);
        trial.worthLeft(first);
        return first.asLong();
    }

    public long ifTaken(int option) {
        if (!book.canTake(option)) {
            return NO_AMOUNT;
        }
        Option o = book.options[option];
        Lease x = book.leases[o.lease];
        Lease trial = spare.leases[0];
        trial.copyFrom(x);
        book.goOnByOption(trial, o);
        trial.worthLeft(first);
        return first.asLong() - x.owed.asLong();
    }

    public int yields(int lease, int k, long w) {
        Lease x = leaseAt(lease);
        if (x == null || !x.owns(k) || !isWorth(w)) {
            return NONE;
        }
        return x.greatestRate(k - 1, w, first);
    }

    public int level(int lease, long w) {
        Lease x = leaseAt(lease);
        if (x == null || !isWorth(w)) {
            return NONE;
        }
        Lease trial = spare.leases[0];
        trial.copyFrom(x);
        return trial.leastLevel(w, first);
    }

    public int heaviest() {
        int best = REFUSED;
        Amount bestOwed = first;
        int bestLeft = 1;
        for (int i = 0; i < book.leaseCount; i++) {
            Lease x = book.leases[i];
            if (x.stage != RUNNING) {
                continue;
            }
            if (best == REFUSED || x.owed.isGreaterShare(x.left(), bestOwed, bestLeft)) {
                best = i;
                bestOwed.copyFrom(x.owed);
                bestLeft = x.left();
            }
        }
        return best;
    }

    public long chance(int seed, int n, int what) {
        if (seed < -1 || n < 1 || n > 10 || what < 0 || what > 2) {
            return NONE;
        }
        if (book.period + YEAR > LAST_PERIOD) {
            return REFUSED;
        }
        long last = seed == -1 ? book.seed : seed;
        Amount owed = first;
        Amount greatest = second;
        Amount least = third;
        long together = 0;
        for (int i = 0; i < n; i++) {
            Book ahead = bookIn(0);
            last = ahead.yearByChance(last);
            ahead.countAllOwed(owed);
            together += owed.asLong();
            if (i == 0 || owed.isAbove(greatest)) {
                greatest.copyFrom(owed);
            }
            if (i == 0 || least.isAbove(owed)) {
                least.copyFrom(owed);
            }
        }
        switch (what) {
            case 0: return together;
            case 1: return greatest.asLong();
            default: return least.asLong();
        }
    }

    public int undo() {
        if (pastCount < 1) {
            return NONE;
        }
        book.copyFrom(past[(pastFirst + pastCount - 1) % MOST_UNDONE]);
        pastCount--;
        return pastCount;
    }

    public int keep() {
        image.copyFrom(book);
        imageKept = true;
        return book.period;
    }

    public int back() {
        if (!imageKept) {
            return NONE;
        }
        book.copyFrom(image);
        forgetPast();
        return book.period;
    }

    public int count(int what) {
        switch (what) {
            case 0: return book.leaseCount;
            case 1: return book.optionCount;
            case 2: return book.period;
            case 3: return book.journal.kept();
            case 4: return book.journal.total;
            case 5: return book.runningLeases();
            case 6: return pastCount;
            case 7: return tapeSize;
            default: return NONE;
        }
    }

    private void putOnTape(int four) {
        for (int shift = 24; shift >= 0 && tapeSize < MOST_TAPE; shift -= 8) {
            tape[tapeSize] = (byte) (four >> shift);
            tapeSize++;
        }
    }

    private Lease leaseAt(int lease) {
        return lease >= 0 && lease < book.leaseCount ? book.leases[lease] : null;
    }

    private Lease runningAt(int lease) {
        Lease x = leaseAt(lease);
        return x != null && x.stage == RUNNING ? x : null;
    }

    private int coming(int n) {
        return Math.max(0, Math.min(n, LAST_PERIOD - book.period));
    }

    /** The spare book, as the ledger will be AS IT GOES: the ledger itself stays. */
    private Book bookIn(int n) {
        spare.copyFrom(book);
        int coming = coming(n);
        for (int i = 0; i < coming; i++) {
            spare.periodGoesBy();
        }
        return spare;
    }

    private void remember() {
        past[(pastFirst + pastCount) % MOST_UNDONE].copyFrom(book);
        if (pastCount < MOST_UNDONE) {
            pastCount++;
        } else {
            pastFirst = (pastFirst + 1) % MOST_UNDONE;
        }
    }

    private void forgetPast() {
        pastFirst = 0;
        pastCount = 0;
    }

    private static boolean isIndex(int v) {
        return v >= LEAST_INDEX && v <= MOST_INDEX;
    }

    private static boolean isSort(int sort) {
        return sort >= 0 && sort < SORTS;
    }

    private static boolean isWorth(long w) {
        return w >= 1 && w <= MOST_WORTH;
    }

    /**
     * The upper or lower number of a fraction in least terms: Euclid's steps (they use the amounts up), built
     * up again from 1 and 0. So the answer is whole if a long holds it, whatever the amounts are.
     */
    private static long leastTerm(Amount upper, Amount lower, boolean under) {
        Amount x = upper;
        Amount y = lower;
        long ahead = under ? 1 : 0;
        long term = under ? 0 : 1;
        for (int i = 0; i < 200 && !y.isZero(); i++) {
            long next = x.takeOut(y) * term + ahead;
            ahead = term;
            term = next;
            Amount rest = x;
            x = y;
            y = rest;
        }
        return term;
    }

    /** The words of the language, each with its letters as named() takes them. */
    private enum Kind {
        LEASE("lease"), PAY("pay"), EARLY("early"), FAIR("fair"), FEE("fee"), TIED("tied"),
        INDEX("index"), OPTION("option"), SEED("seed");

        final int code;

        Kind(String word) {
            int letters = 0;
            for (int i = 0; i < 6; i++) {
                letters = letters * 32 + (i < word.length() ? word.charAt(i) - 'a' + 1 : 0);
            }
            code = letters;
        }
    }

    /** Reads a TEXT into a cleared book; behind the first fault nothing more is taken. It keeps the fault. */
    private static final class Reader {
        static final int END = 0;
        static final int WORD = 1;
        static final int NUMBER = 2;
        static final int STOP = 3;
        static final int NO_TOKEN = 4;

        static final int FAULT_TOKEN = 1;
        static final int FAULT_TOO_MUCH = 2;
        static final int FAULT_TOLD = 3;
        static final int FAULT_UNTOLD = 4;

        static final int TOLD_EARLY = 1;
        static final int TOLD_FAIR = 2;
        static final int TOLD_FEE = 4;
        static final int TOLD_TIED = 8;

        static final int MOST_LETTERS = 6;
        /** Beyond every bound, so longer numbers need not be told apart. */
        static final int HUGE = 100000000;

        final byte[] bytes;
        int length;
        Book book;
        /** Bits of each lease: what was told of it and may not be told again. */
        final int[] toldOf = new int[MOST_LEASES];
        int next;
        int start;
        int token;
        int value;
        int pays;
        boolean seedTold;
        int lines;
        int fault;
        int place = NONE;

        Reader(byte[] bytes, Book book) {
            this.bytes = bytes;
            this.book = book;
        }

        void begin(int n, Book cleared) {
            length = Math.min(n, bytes.length);
            book = cleared;
            Arrays.fill(toldOf, 0);
            next = 0;
            pays = 0;
            seedTold = false;
            lines = 0;
            fault = 0;
            place = NONE;
        }

        void read() {
            advance();
            for (int i = 0; i < MOST_TAPE && fault == 0 && token != END; i++) {
                readLine();
                readStop();
            }
        }

        void readLine() {
            Kind kind = token == WORD ? kindOf(value) : null;
            if (kind == null) {
                fail(FAULT_TOKEN);
                return;
            }
            switch (kind) {
                case LEASE: readLease(); break;
                case PAY: readPay(); break;
                case EARLY: readEarly(); break;
                case FAIR: readFair(); break;
                case FEE: readFee(); break;
                case TIED: readTied(); break;
                case INDEX: readIndex(); break;
                case OPTION: readOption(); break;
                default: readSeed(); break;
            }
        }

        void readLease() {
            startLine(book.leaseCount >= MOST_LEASES ? FAULT_TOO_MUCH : 0);
            int name = readNewName();
            int begins = readNumber(0, 20);
            int term = readNumber(1, MOST_TOLD_TERM);
            int rate = readNumber(0, MOST_RATE);
            if (fault == 0) {
                book.addLease(name, begins, term, rate);
            }
        }

        void readPay() {
            startLine(pays >= MOST_PAYS ? FAULT_TOO_MUCH : 0);
            int lease = readToldName();
            int first = readNumber(1, MOST_TOLD_TERM);
            int last = readNumber(first, MOST_TOLD_TERM);
            int each = readNumber(0, 99999);
            if (fault == 0) {
                pays++;
                book.leases[lease].payMore(first - 1, last - 1, each);
            }
        }

        void readEarly() {
            startLine(0);
            int lease = readNameOnce(TOLD_EARLY);
            if (fault == 0) {
                book.leases[lease].early = true;
            }
        }

        void readFair() {
            startLine(0);
            int lease = readNameOnce(TOLD_FAIR);
            int fair = readNumber(1, 9999999);
            if (fault == 0) {
                book.leases[lease].fair = fair;
            }
        }

        void readFee() {
            startLine(0);
            int lease = readNameOnce(TOLD_FEE);
            int fee = readNumber(0, 99999);
            if (fault == 0) {
                book.leases[lease].fee = fee;
            }
        }

        void readTied() {
            startLine(0);
            int lease = readNameOnce(TOLD_TIED);
            if (fault == 0) {
                book.leases[lease].tied = true;
            }
        }

        void readIndex() {
            startLine(book.toldCount >= MOST_INDEXES ? FAULT_TOO_MUCH : 0);
            int period = readNumber(book.lastTold() + 1, LAST_PERIOD);
            int index = readNumber(LEAST_INDEX, MOST_INDEX);
            if (fault == 0) {
                book.addIndex(period, index);
            }
        }

        void readOption() {
            startLine(book.optionCount >= MOST_OPTIONS ? FAULT_TOO_MUCH : 0);
            int lease = readToldName();
            int more = readNumber(1, MOST_MORE);
            int each = readNumber(0, 99999);
            if (fault == 0) {
                book.addOption(lease, more, each);
            }
        }

        void readSeed() {
            startLine(seedTold ? FAULT_TOLD : 0);
            int seed = readNumber(0, 99999);
            if (fault == 0) {
                seedTold = true;
                book.seed = seed;
            }
        }

        /** Goes behind the word of a LINE, unless the LINE may not come at all. */
        void startLine(int refusal) {
            if (refusal != 0) {
                fail(refusal);
                return;
            }
            advance();
        }

        void readStop() {
            if (fault != 0) {
                return;
            }
            if (token != STOP) {
                fail(FAULT_TOKEN);
                return;
            }
            lines++;
            advance();
        }

        int readNumber(int low, int high) {
            if (fault != 0) {
                return 0;
            }
            if (token != NUMBER) {
                fail(FAULT_TOKEN);
                return 0;
            }
            if (value < low || value > high) {
                fail(FAULT_TOO_MUCH);
                return 0;
            }
            int number = value;
            advance();
            return number;
        }

        int readNewName() {
            int at = start;
            int name = readName();
            if (book.leaseNamed(name) != NONE) {
                failAt(FAULT_TOLD, at);
            }
            return name;
        }

        int readToldName() {
            int at = start;
            int lease = book.leaseNamed(readName());
            if (lease == NONE) {
                failAt(FAULT_UNTOLD, at);
            }
            return lease;
        }

        int readNameOnce(int bit) {
            int at = start;
            int lease = book.leaseNamed(readName());
            if (lease < 0 || lease >= MOST_LEASES) {
                failAt(FAULT_UNTOLD, at);
                return NONE;
            }
            if ((toldOf[lease] & bit) != 0) {
                failAt(FAULT_TOLD, at);
            }
            toldOf[lease] |= bit;
            return lease;
        }

        /** The letters of a W. */
        int readName() {
            if (fault != 0) {
                return NONE;
            }
            if (token != WORD || value == NONE || kindOf(value) != null) {
                fail(FAULT_TOKEN);
                return NONE;
            }
            int letters = value;
            advance();
            return letters;
        }

        void fail(int sort) {
            failAt(sort, start);
        }

        /** Only the first fault counts: what comes behind it is read no more. */
        void failAt(int sort, int at) {
            if (fault == 0) {
                fault = sort;
                place = at;
            }
        }

        Kind kindOf(int letters) {
            for (int i = 0; i < KINDS.length; i++) {
                if (KINDS[i].code == letters) {
                    return KINDS[i];
                }
            }
            return null;
        }

        void advance() {
            while (next < length && (bytes[next] == 10 || bytes[next] == 32)) {
                next++;
            }
            start = next;
            token = tokenAt(next);
            if (token == WORD) {
                advanceWord();
            } else if (token == NUMBER) {
                advanceNumber();
            } else if (token != END) {
                next++;
            }
        }

        void advanceWord() {
            value = 0;
            while (next < length && bytes[next] >= 'a' && bytes[next] <= 'z') {
                value = next - start < MOST_LETTERS ? value * 32 + bytes[next] - 'a' + 1 : NONE;
                next++;
            }
            for (int i = next - start; i < MOST_LETTERS; i++) {
                value = value * 32;
            }
        }

        void advanceNumber() {
            value = 0;
            while (next < length && bytes[next] >= '0' && bytes[next] <= '9') {
                value = value >= HUGE ? HUGE : value * 10 + bytes[next] - '0';
                next++;
            }
        }

        int tokenAt(int at) {
            if (at < 0 || at >= length) {
                return END;
            }
            int sign = bytes[at];
            if (sign >= 'a' && sign <= 'z') {
                return WORD;
            }
            if (sign >= '0' && sign <= '9') {
                return NUMBER;
            }
            return sign == ';' ? STOP : NO_TOKEN;
        }
    }

    /**
     * A whole number: high times 2 to the 42, and low, which is 0 or more and less than that. extend() and
     * putOff() in turn double DUE beyond a long; TERM keeps it below 2 to the 94, all sums below 2 to the 104.
     */
    private static final class Amount {
        static final int LOW_BITS = 42;
        static final int ALL_BITS = 105;
        static final long LOW_MASK = 4398046511103L;

        long high;
        long low;

        void set(long v) {
            high = v >> LOW_BITS;
            low = v & LOW_MASK;
        }

        void copyFrom(Amount other) {
            high = other.high;
            low = other.low;
        }

        /** The lowest 64 bits: all of it, if a long holds it. */
        long asLong() {
            return (high << LOW_BITS) + low;
        }

        boolean isZero() {
            return high == 0 && low == 0;
        }

        boolean isAtLeast(long v) {
            long itsHigh = v >> LOW_BITS;
            return high > itsHigh || high == itsHigh && low >= (v & LOW_MASK);
        }

        boolean isAbove(Amount other) {
            return isGreaterShare(1, other, 1);
        }

        /** Whether this by n is more than the other one by m (fractions; n and m 1 .. 72). */
        boolean isGreaterShare(int n, Amount other, int m) {
            long itsLow = low * m;
            long itsHigh = high * m + (itsLow >> LOW_BITS);
            long otherLow = other.low * n;
            long otherHigh = other.high * n + (otherLow >> LOW_BITS);
            return itsHigh > otherHigh
                || itsHigh == otherHigh && (itsLow & LOW_MASK) > (otherLow & LOW_MASK);
        }

        void holdToZero() {
            if (high < 0) {
                set(0L);
            }
        }

        void addLong(long v) {
            low += v & LOW_MASK;
            high += (v >> LOW_BITS) + (low >> LOW_BITS);
            low &= LOW_MASK;
        }

        void add(Amount other) {
            low += other.low;
            high += other.high + (low >> LOW_BITS);
            low &= LOW_MASK;
        }

        void subtract(Amount other) {
            low -= other.low;
            high += (low >> LOW_BITS) - other.high;
            low &= LOW_MASK;
        }

        /** Times n 0 .. 1000000. */
        void times(long n) {
            low *= n;
            high = high * n + (low >> LOW_BITS);
            low &= LOW_MASK;
        }

        /** Times up by under, downwards (of 0 or more; up 0 .. 1200000, under 1 .. 2000000). */
        void shareDown(long up, long under) {
            share(up, under, 0L);
        }

        void shareRounded(long up, long under) {
            share(up, under, under / 2);
        }

        void share(long up, long under, long more) {
            if (under <= 0) {
                return;
            }
            // Divided ahead of the times, so that nothing on the way is beyond what comes of it.
            long rest = (high % under << LOW_BITS) + low;
            low = rest / under * up + (rest % under * up + more) / under;
            high = high / under * up + (low >> LOW_BITS);
            low &= LOW_MASK;
        }

        /** Takes the other one (1 or more) out as often as it goes, bit by bit: how often. */
        long takeOut(Amount other) {
            long often = 0;
            if (high == 0 && other.high == 0 && other.low > 0) {
                often = low / other.low;
                low %= other.low;
                return often;
            }
            long restHigh = 0;
            long restLow = 0;
            for (int bit = ALL_BITS - 1; bit >= 0; bit--) {
                long one = (bit >= LOW_BITS ? high >> bit - LOW_BITS : low >> bit) & 1;
                restLow = restLow * 2 + one;
                restHigh = restHigh * 2 + (restLow >> LOW_BITS);
                restLow &= LOW_MASK;
                often *= 2;
                if (restHigh > other.high || restHigh == other.high && restLow >= other.low) {
                    restLow -= other.low;
                    restHigh += (restLow >> LOW_BITS) - other.high;
                    restLow &= LOW_MASK;
                    often++;
                }
            }
            high = restHigh;
            low = restLow;
            return often;
        }
    }

    /** Amounts of own periods, each in the two parts of an Amount. */
    private static final class Row {
        final long[] highs = new long[MOST_TERM];
        final long[] lows = new long[MOST_TERM];
        final Amount held = new Amount();

        void copyFrom(Row other) {
            System.arraycopy(other.highs, 0, highs, 0, MOST_TERM);
            System.arraycopy(other.lows, 0, lows, 0, MOST_TERM);
        }

        void fill(int n, long v) {
            int behind = Math.max(0, Math.min(n, MOST_TERM));
            held.set(v);
            Arrays.fill(highs, 0, behind, held.high);
            Arrays.fill(lows, 0, behind, held.low);
        }

        void copyTo(int i, Amount x) {
            boolean has = i >= 0 && i < MOST_TERM;
            x.high = has ? highs[i] : 0;
            x.low = has ? lows[i] : 0;
        }

        void addTo(int i, Amount x) {
            if (i >= 0 && i < MOST_TERM) {
                x.low += lows[i];
                x.high += highs[i] + (x.low >> Amount.LOW_BITS);
                x.low &= Amount.LOW_MASK;
            }
        }

        void put(int i, Amount x) {
            if (i >= 0 && i < MOST_TERM) {
                highs[i] = x.high;
                lows[i] = x.low;
            }
        }

        void setAt(int i, long v) {
            held.set(v);
            put(i, held);
        }

        void addAt(int i, long v) {
            copyTo(i, held);
            held.addLong(v);
            put(i, held);
        }

        void repeat(int i) {
            copyTo(i, held);
            put(i + 1, held);
        }

        void move(int from, int to) {
            copyTo(from, held);
            addTo(to, held);
            put(to, held);
            setAt(from, 0L);
        }

        void shareDownOf(Row other, int from, int behind, long up, long under) {
            for (int i = from; i < behind; i++) {
                other.copyTo(i, held);
                held.shareDown(up, under);
                put(i, held);
            }
        }
    }

    /** One LEASE; own period k is at k - 1 of its rows. */
    private static final class Lease {
        int name;
        int start;
        int term;
        int rate;
        int fair;
        int fee;
        int base;
        int indexed;
        int gone;
        int stage;
        boolean found;
        boolean early;
        boolean tied;
        final Amount owed = new Amount();
        final Amount used = new Amount();
        final Row due = new Row();
        final Row setting = new Row();
        // Only added up, so what a long holds of them is enough.
        final long[] moved = new long[MOVED];

        void tell(int itsName, int begins, int periods, int itsRate) {
            name = itsName;
            start = begins;
            term = periods;
            rate = itsRate;
            fair = 0;
            fee = 0;
            base = 0;
            indexed = 0;
            gone = 0;
            stage = WAITING;
            found = false;
            early = false;
            tied = false;
            owed.set(0L);
            used.set(0L);
            due.fill(MOST_TERM, 0L);
            setting.fill(MOST_TERM, 0L);
            Arrays.fill(moved, 0L);
        }

        void copyFrom(Lease other) {
            name = other.name;
            start = other.start;
            term = other.term;
            rate = other.rate;
            fair = other.fair;
            fee = other.fee;
            base = other.base;
            indexed = other.indexed;
            gone = other.gone;
            stage = other.stage;
            found = other.found;
            early = other.early;
            tied = other.tied;
            owed.copyFrom(other.owed);
            used.copyFrom(other.used);
            due.copyFrom(other.due);
            setting.copyFrom(other.setting);
            System.arraycopy(other.moved, 0, moved, 0, MOVED);
        }

        boolean owns(int k) {
            return k >= 1 && k <= term && k <= MOST_TERM;
        }

        int left() {
            return stage == ENDED ? 0 : term - gone;
        }

        void payMore(int from, int to, int each) {
            for (int i = from; i <= to; i++) {
                due.addAt(i, each);
                setting.addAt(i, each);
            }
        }

        void worthLeft(Amount worth) {
            worthFrom(gone, rate, worth);
        }

        void worthFrom(int from, int r, Amount worth) {
            long grown = MILLION + r;
            worth.set(0L);
            for (int i = Math.min(term, MOST_TERM) - 1; i >= from && i >= 0; i--) {
                if (!early) {
                    due.addTo(i, worth);
                }
                worth.shareRounded(MILLION, grown);
                if (early) {
                    due.addTo(i, worth);
                }
            }
        }

        /** WORTH is never more by a greater rate, so halving the span finds the greatest one. */
        int greatestRate(int from, long w, Amount worth) {
            worthFrom(from, 0, worth);
            if (!worth.isAtLeast(w)) {
                return REFUSED;
            }
            int low = 0;
            int high = MOST_RATE;
            for (int i = 0; i < 32 && low < high; i++) {
                int middle = (low + high + 1) / 2;
                worthFrom(from, middle, worth);
                if (worth.isAtLeast(w)) {
                    low = middle;
                } else {
                    high = middle - 1;
                }
            }
            return low;
        }

        /** WORTH is never less by a greater amount, so halving the span finds the least one; DUE is used up. */
        int leastLevel(long w, Amount worth) {
            worthOfLevel(MOST_LEVEL, worth);
            if (!worth.isAtLeast(w)) {
                return REFUSED;
            }
            int low = 0;
            int high = MOST_LEVEL;
            for (int i = 0; i < 32 && low < high; i++) {
                int middle = (low + high) / 2;
                worthOfLevel(middle, worth);
                if (worth.isAtLeast(w)) {
                    high = middle;
                } else {
                    low = middle + 1;
                }
            }
            return low;
        }

        void worthOfLevel(int each, Amount worth) {
            due.fill(term, each);
            worthFrom(0, rate, worth);
        }

        void followIndex(int index) {
            indexed = index;
            due.shareDownOf(setting, gone, term, index, base);
        }

        void goOnAsLast(int n) {
            for (int i = 0; i < n && owns(term) && term < MOST_TERM; i++) {
                due.repeat(term - 1);
                setting.repeat(term - 1);
                term++;
            }
        }

        void goOn(int n, long each) {
            for (int i = 0; i < n && term < MOST_TERM; i++) {
                due.setAt(term, each);
                setting.setAt(term, each);
                term++;
            }
        }

        void keepPart(long ofThousand) {
            due.shareDownOf(due, gone, term, ofThousand, THOUSAND);
            setting.shareDownOf(setting, gone, term, ofThousand, THOUSAND);
        }

        void movePayment(int from, int to) {
            due.move(from, to);
            setting.move(from, to);
        }

        /** What is OWED behind the own period that goes by. */
        void owedBehind(Amount paid, Amount behind) {
            if (left() <= 1) {
                behind.set(0L);
                return;
            }
            behind.copyFrom(owed);
            if (!early) {
                behind.shareRounded(MILLION + rate, MILLION);
            }
            behind.subtract(paid);
            behind.holdToZero();
            if (early) {
                behind.shareRounded(MILLION + rate, MILLION);
            }
        }
    }

    private static final class Option {
        int lease;
        int more;
        int each;
        boolean taken;

        void copyFrom(Option other) {
            lease = other.lease;
            more = other.more;
            each = other.each;
            taken = other.taken;
        }
    }

    /** The ACCOUNTS, and the latest ENTRIES in a ring of rows: sort, PERIOD, LEASE, amounts. */
    private static final class Journal {
        static final int HEAD = 3;
        static final int WIDTH = HEAD + ACCOUNTS;
        static final int MOST_KEPT = 40;

        final long[] rows = new long[WIDTH * MOST_KEPT];
        final long[] accounts = new long[ACCOUNTS];
        int total;

        void clear() {
            total = 0;
            Arrays.fill(accounts, 0L);
        }

        void copyFrom(Journal other) {
            total = other.total;
            System.arraycopy(other.rows, 0, rows, 0, WIDTH * MOST_KEPT);
            System.arraycopy(other.accounts, 0, accounts, 0, ACCOUNTS);
        }

        int kept() {
            return Math.min(total, MOST_KEPT);
        }

        void open(int sort, int period, int lease) {
            int at = total % MOST_KEPT * WIDTH;
            total++;
            rows[at] = sort;
            rows[at + 1] = period;
            rows[at + 2] = lease;
            Arrays.fill(rows, at + HEAD, at + WIDTH, 0L);
        }

        void put(int account, long amount) {
            if (total < 1 || account < 0 || account >= ACCOUNTS) {
                return;
            }
            rows[(total - 1) % MOST_KEPT * WIDTH + HEAD + account] += amount;
            accounts[account] += amount;
        }

        long told(int k, int column) {
            if (k < 0 || k >= kept() || column < 0 || column >= WIDTH) {
                return 0;
            }
            return rows[(total - 1 - k) % MOST_KEPT * WIDTH + column];
        }
    }

    /** All that an IMAGE keeps and an undoing brings back. */
    private static final class Book {
        final Lease[] leases = new Lease[MOST_LEASES];
        final Option[] options = new Option[MOST_OPTIONS];
        final int[] indexes = new int[LAST_PERIOD + 1];
        final int[] toldPeriods = new int[MOST_INDEXES];
        final Journal journal = new Journal();
        // What was paid in the PERIOD that went by last; the other two are for use on the way.
        final Amount paid = new Amount();
        final Amount held = new Amount();
        final Amount then = new Amount();
        int leaseCount;
        int optionCount;
        int toldCount;
        int period;
        int seed;

        Book() {
            for (int i = 0; i < MOST_LEASES; i++) {
                leases[i] = new Lease();
            }
            for (int i = 0; i < MOST_OPTIONS; i++) {
                options[i] = new Option();
            }
            Arrays.fill(indexes, FIRST_INDEX);
        }

        void clear() {
            leaseCount = 0;
            optionCount = 0;
            toldCount = 0;
            period = 0;
            seed = 0;
            Arrays.fill(indexes, FIRST_INDEX);
            journal.clear();
        }

        void copyFrom(Book other) {
            leaseCount = other.leaseCount;
            optionCount = other.optionCount;
            toldCount = other.toldCount;
            period = other.period;
            seed = other.seed;
            System.arraycopy(other.indexes, 0, indexes, 0, LAST_PERIOD + 1);
            System.arraycopy(other.toldPeriods, 0, toldPeriods, 0, MOST_INDEXES);
            journal.copyFrom(other.journal);
            for (int i = 0; i < leaseCount; i++) {
                leases[i].copyFrom(other.leases[i]);
            }
            for (int i = 0; i < optionCount; i++) {
                options[i].copyFrom(other.options[i]);
            }
        }

        void addLease(int name, int begins, int term, int rate) {
            if (leaseCount < MOST_LEASES) {
                leases[leaseCount].tell(name, begins, term, rate);
                leaseCount++;
            }
        }

        void addOption(int lease, int more, int each) {
            if (optionCount < MOST_OPTIONS) {
                Option o = options[optionCount];
                o.lease = lease;
                o.more = more;
                o.each = each;
                o.taken = false;
                optionCount++;
            }
        }

        void addIndex(int from, int index) {
            if (toldCount < MOST_INDEXES && from >= 0 && from <= LAST_PERIOD) {
                toldPeriods[toldCount] = from;
                toldCount++;
                Arrays.fill(indexes, from, LAST_PERIOD + 1, index);
            }
        }

        int lastTold() {
            return toldCount > 0 ? toldPeriods[toldCount - 1] : -1;
        }

        int leaseNamed(int letters) {
            for (int i = 0; i < leaseCount; i++) {
                if (leases[i].name == letters) {
                    return i;
                }
            }
            return NONE;
        }

        void findRates(Amount worth) {
            for (int i = 0; i < leaseCount; i++) {
                Lease x = leases[i];
                int rate = x.fair > 0 ? x.greatestRate(0, x.fair, worth) : REFUSED;
                if (rate >= 0) {
                    x.rate = rate;
                    x.found = true;
                }
            }
        }

        int runningLeases() {
            int running = 0;
            for (int i = 0; i < leaseCount; i++) {
                if (leases[i].stage == RUNNING) {
                    running++;
                }
            }
            return running;
        }

        void countAllOwed(Amount together) {
            together.set(0L);
            for (int i = 0; i < leaseCount; i++) {
                together.add(leases[i].owed);
            }
        }

        int indexNow() {
            return period >= 0 && period <= LAST_PERIOD ? indexes[period] : FIRST_INDEX;
        }

        void changeIndex(int index) {
            int stop = LAST_PERIOD + 1;
            for (int i = toldCount - 1; i >= 0 && toldPeriods[i] > period; i--) {
                stop = toldPeriods[i];
            }
            for (int i = period; i < stop && i <= LAST_PERIOD; i++) {
                indexes[i] = index;
            }
        }

        void periodGoesBy() {
            paid.set(0L);
            if (period >= LAST_PERIOD) {
                return;
            }
            for (int i = 0; i < leaseCount; i++) {
                Lease x = leases[i];
                if (x.stage == WAITING && x.start == period) {
                    begin(i, x);
                } else if (x.stage == RUNNING && x.tied && indexNow() != x.indexed) {
                    x.followIndex(indexNow());
                    remeasure(i, x);
                }
                if (x.stage == RUNNING) {
                    payAndWriteOff(i, x);
                }
            }
            period++;
        }

        void begin(int lease, Lease x) {
            x.stage = RUNNING;
            x.base = indexNow();
            x.indexed = x.base;
            x.worthFrom(0, x.rate, x.owed);
            x.used.copyFrom(x.owed);
            x.used.addLong(x.fee);
            x.moved[MOVED_BEGUN] = x.owed.asLong();
            journal.open(SORT_BEGUN, period, lease);
            journal.put(USED, x.used.asLong());
            journal.put(OWED, -x.owed.asLong());
            journal.put(CASH, -x.fee);
        }

        void payAndWriteOff(int lease, Lease x) {
            int left = x.left();
            if (left < 1) {
                return;
            }
            x.due.copyTo(x.gone, held);
            paid.add(held);
            x.owedBehind(held, then);
            long cash = held.asLong();
            long owedLess = x.owed.asLong() - then.asLong();
            // One sum serves all cases: what the payment takes beyond OWED is INTEREST.
            long interest = cash - owedLess;
            x.owed.copyFrom(then);
            then.copyFrom(x.used);
            then.shareDown(1, left);
            long writtenOff = then.asLong();
            x.used.subtract(then);
            journal.open(SORT_PERIOD, period, lease);
            journal.put(CASH, -cash);
            journal.put(OWED, owedLess);
            journal.put(USED, -writtenOff);
            journal.put(INTEREST, interest);
            journal.put(WRITTEN_OFF, writtenOff);
            x.moved[MOVED_INTEREST] += interest;
            x.moved[MOVED_PAID] += cash;
            x.gone++;
            if (x.gone >= x.term) {
                x.stage = ENDED;
            }
        }

        /** RE-MEASURED: by how much OWED is more then. */
        long remeasure(int lease, Lease x) {
            x.worthFrom(x.gone, x.rate, then);
            long more = then.asLong() - x.owed.asLong();
            long usedMore = -x.used.asLong();
            x.used.add(then);
            x.used.subtract(x.owed);
            x.used.holdToZero();
            usedMore += x.used.asLong();
            x.owed.copyFrom(then);
            journal.open(SORT_MEASURED, period, lease);
            journal.put(OWED, -more);
            journal.put(USED, usedMore);
            journal.put(GAIN, more - usedMore);
            x.moved[MOVED_MEASURED] += more;
            return more;
        }

        /** OWED and USED are less by so much of a thousand (ENDED: by all): the GAIN of it. */
        long giveBack(int lease, Lease x, long ofThousand, int sort) {
            then.copyFrom(x.owed);
            then.shareDown(ofThousand, THOUSAND);
            x.owed.subtract(then);
            long owedLess = then.asLong();
            then.copyFrom(x.used);
            then.shareDown(ofThousand, THOUSAND);
            x.used.subtract(then);
            long usedLess = then.asLong();
            long gain = owedLess - usedLess;
            journal.open(sort, period, lease);
            journal.put(OWED, owedLess);
            journal.put(USED, -usedLess);
            journal.put(GAIN, -gain);
            x.moved[MOVED_LESS] += owedLess;
            return gain;
        }

        void writeDown(int lease, Lease x, long v) {
            x.used.addLong(-v);
            journal.open(SORT_DOWN, period, lease);
            journal.put(USED, -v);
            journal.put(GAIN, v);
        }

        boolean canTake(int option) {
            return option >= 0 && option < optionCount
                && canTakeSet(options[option].lease, 1 << option);
        }

        /** Whether options (bits) are this running LEASE's, none of them taken, and TERM has room for all. */
        boolean canTakeSet(int lease, int set) {
            if (lease < 0 || lease >= leaseCount || leases[lease].stage != RUNNING) {
                return false;
            }
            int term = leases[lease].term;
            for (int i = 0; i < MOST_OPTIONS; i++) {
                if ((set >> i & 1) == 0) {
                    continue;
                }
                if (i >= optionCount || options[i].lease != lease || options[i].taken) {
                    return false;
                }
                term += options[i].more;
            }
            return term <= MOST_TERM;
        }

        void goOnBySet(Lease x, int set) {
            for (int i = 0; i < optionCount; i++) {
                if ((set >> i & 1) != 0) {
                    goOnByOption(x, options[i]);
                }
            }
        }

        void goOnByOption(Lease x, Option o) {
            x.goOn(o.more, o.each);
            if (x.tied) {
                x.followIndex(indexNow());
            }
        }

        /** BY CHANCE once, from a number on: the last number that was drawn from. */
        long yearByChance(long number) {
            long last = number;
            for (int i = 0; i < YEAR; i++) {
                last = last * 1103515245L + 12345L & 2147483647L;
                int step = (int) (last / 65536L % 21L) - 10;
                changeIndex(Math.max(LEAST_INDEX, Math.min(MOST_INDEX, indexNow() + step)));
                periodGoesBy();
            }
            return last;
        }
    }
}
