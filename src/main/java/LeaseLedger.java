import java.util.Arrays;
import java.util.NoSuchElementException;

/** A ledger of leases told as a text; ../shared/DOC.md says what each call answers. */
public final class LeaseLedger {
    public static final int NONE = -1;

    private static final int REFUSED = -2;
    private static final long NO_AMOUNT = -9223372036854775808L;

    private static final int MOST_TAPE = 700;
    private static final int MOST_LEASES = 4;
    private static final int MOST_PAYS = 12;
    private static final int MOST_OPTIONS = 4;
    private static final int MOST_INDEXES = 8;
    private static final int MOST_TERM = 72;
    private static final int MOST_TOLD_TERM = 48;
    private static final int MOST_MORE = 24;
    private static final int MOST_RATE = 200000;
    private static final int MOST_ASKED_RATE = 1000000;
    private static final int MOST_LEVEL = 9999999;
    private static final int MOST_WORTH = 999999999;
    private static final int MOST_UNDONE = 20;
    private static final int MOST_AHEAD = 72;
    private static final int YEAR = 12;
    private static final int LAST_PERIOD = 99;
    private static final int LEAST_INDEX = 500;
    private static final int MOST_INDEX = 2000;
    private static final int FIRST_INDEX = 1000;

    private static final long MILLION = 1000000L;
    private static final long THOUSAND = 1000L;

    private static final int WAITING = 0;
    private static final int RUNNING = 1;
    private static final int ENDED = 2;

    private static final int CASH = 0;
    private static final int OWED = 1;
    private static final int USED = 2;
    private static final int INTEREST = 3;
    private static final int WRITTEN_OFF = 4;
    private static final int GAIN = 5;
    private static final int ACCOUNTS = 6;

    private static final int SORT_BEGUN = 0;
    private static final int SORT_PERIOD = 1;
    private static final int SORT_MEASURED = 2;
    private static final int SORT_PART = 3;
    private static final int SORT_ENDED = 4;
    private static final int SORT_DOWN = 5;
    private static final int SORTS = 6;

    private static final int MOVED_BEGUN = 0;
    private static final int MOVED_INTEREST = 1;
    private static final int MOVED_PAID = 2;
    private static final int MOVED_MEASURED = 3;
    private static final int MOVED_LESS = 4;
    private static final int MOVED = 5;

    private static final Kind[] KINDS = Kind.values();

    private final byte[] tape = new byte[MOST_TAPE];
    private int tapeSize;
    private Book book = new Book();
    private Book spare = new Book();
    private final Reader reader = new Reader(tape, spare);
    private final Book image = new Book();
    private boolean imageKept;
    private final Book[] past = new Book[MOST_UNDONE];
    private int pastFirst;
    private int pastCount;

    /** All rows are made here and used again: no call makes one, however many calls a run has. */
    public LeaseLedger() {
        for (int i = 0; i < MOST_UNDONE; i++) {
            past[i] = new Book();
        }
    }

    public int feed(int a, int b, int c, int d, int e) {
        if (tapeSize + 20 > MOST_TAPE) {
            return NONE;
        }
        putOnTape(a);
        putOnTape(b);
        putOnTape(c);
        putOnTape(d);
        putOnTape(e);
        return tapeSize;
    }

    public int text(int n) {
        if (n < 0 || n > tapeSize) {
            return REFUSED;
        }
        Book fresh = spare;
        fresh.clear();
        reader.begin(n, fresh);
        reader.read();
        tapeSize = 0;
        if (reader.fault != 0) {
            return NONE;
        }
        fresh.findRates();
        spare = book;
        book = fresh;
        imageKept = false;
        forgetPast();
        return reader.lines;
    }

    public int fault(int what) {
        switch (what) {
            case 0: return reader.fault;
            case 1: return reader.place;
            default: return NONE;
        }
    }

    public int named(int letters) {
        return book.leaseNamed(letters);
    }

    public int go(int n) {
        if (n < 1 || n > 12) {
            return NONE;
        }
        if (book.period + n > LAST_PERIOD) {
            return REFUSED;
        }
        for (int i = 0; i < n; i++) {
            remember();
            book.periodGoesBy();
        }
        return book.period;
    }

    public int lease(int lease, int what) throws IndexOutOfBoundsException, NoSuchElementException {
        Lease x = leaseAt(lease);
        if (x == null) {
            throw new IndexOutOfBoundsException("no such lease");
        }
        switch (what) {
            case 0: return x.start;
            case 1: return x.term;
            case 2: return x.rate;
            case 3: return x.stage;
            case 4: return x.left();
            case 5: return x.base;
            case 6: return x.fee;
            case 7: return x.found ? 1 : 0;
            case 8: return x.indexed;
            default: throw new NoSuchElementException("no such what");
        }
    }

    public long amount(int lease, int what) {
        Lease x = leaseAt(lease);
        if (x == null || what < 0 || what > 1) {
            return NONE;
        }
        return what == 0 ? x.owed : x.used;
    }

    public long due(int lease, int k) {
        Lease x = leaseAt(lease);
        if (x == null || !x.owns(k)) {
            return NONE;
        }
        return x.due[k - 1];
    }

    public long worth(int lease, int k, int rate) {
        Lease x = leaseAt(lease);
        if (x == null || !x.owns(k) || rate < 0 || rate > MOST_ASKED_RATE) {
            return NONE;
        }
        return x.worthFrom(k - 1, rate);
    }

    public int index(int period) {
        if (period < 0 || period > LAST_PERIOD) {
            return NONE;
        }
        return book.indexes[period];
    }

    public long account(int account) {
        if (account < 0 || account >= ACCOUNTS) {
            return NO_AMOUNT;
        }
        return book.journal.accounts[account];
    }

    public long entry(int k, int what) {
        boolean head = what >= 0 && what < Journal.HEAD;
        boolean amount = what >= 10 && what < 10 + ACCOUNTS;
        if (k < 0 || k >= book.journal.kept() || !head && !amount) {
            return NO_AMOUNT;
        }
        return book.journal.told(k, head ? what : what - 10 + Journal.HEAD);
    }

    public long rate(int lease, int rate) {
        Lease x = runningAt(lease);
        if (x == null || rate < 0 || rate > MOST_RATE) {
            return NO_AMOUNT;
        }
        remember();
        x.rate = rate;
        return book.remeasure(lease, x);
    }

    public long extend(int lease, int n) {
        Lease x = runningAt(lease);
        if (x == null || n < 1 || n > MOST_MORE || x.term + n > MOST_TERM) {
            return NO_AMOUNT;
        }
        remember();
        x.goOnAsLast(n);
        return book.remeasure(lease, x);
    }

    public long take(int option) {
        if (!book.canTake(option)) {
            return NO_AMOUNT;
        }
        remember();
        Option o = book.options[option];
        o.taken = true;
        Lease x = book.leases[o.lease];
        book.goOnByOption(x, o);
        return book.remeasure(o.lease, x);
    }

    public long part(int lease, int p) {
        Lease x = runningAt(lease);
        if (x == null || p < 1 || p > 999) {
            return NO_AMOUNT;
        }
        remember();
        long gain = book.giveBack(lease, x, x.partOf(x.owed, p), x.partOf(x.used, p), SORT_PART);
        x.keepPart(THOUSAND - p);
        return gain;
    }

    public long end(int lease) {
        Lease x = runningAt(lease);
        if (x == null) {
            return NO_AMOUNT;
        }
        remember();
        x.stage = ENDED;
        return book.giveBack(lease, x, x.owed, x.used, SORT_ENDED);
    }

    public long down(int lease, long v) {
        Lease x = runningAt(lease);
        if (x == null || v < 1 || v > x.used) {
            return NO_AMOUNT;
        }
        remember();
        book.writeDown(lease, x, v);
        return x.used;
    }

    public long putOff(int lease, int k, int j) {
        Lease x = runningAt(lease);
        if (x == null || k <= x.gone || k >= j || !x.owns(k) || !x.owns(j)) {
            return NO_AMOUNT;
        }
        remember();
        x.movePayment(k - 1, j - 1);
        return book.remeasure(lease, x);
    }

    public int become(int index) {
        if (!isIndex(index)) {
            return NONE;
        }
        remember();
        int was = book.indexNow();
        book.changeIndex(index);
        return was;
    }

    public long plan(int lease, int n, int what) {
        Lease x = leaseAt(lease);
        if (x == null || n < 0 || n > MOST_AHEAD || what < 0 || what > 3) {
            return NONE;
        }
        Lease then = bookIn(n).leases[lease];
        switch (what) {
            case 0: return then.owed;
            case 1: return then.used;
            case 2: return then.moved[MOVED_PAID] - x.moved[MOVED_PAID];
            default: return then.moved[MOVED_INTEREST] - x.moved[MOVED_INTEREST];
        }
    }

    public long all(int n) {
        if (n < 0 || n > MOST_AHEAD) {
            return NONE;
        }
        return bookIn(n).allOwed();
    }

    public long soon(int lease, int what) {
        Lease x = leaseAt(lease);
        if (x == null || what < 0 || what > 1) {
            return NONE;
        }
        long then = bookIn(YEAR).leases[lease].owed;
        return what == 0 ? x.owed - then : then;
    }

    public long sum(int account, int sort) {
        if (account < 0 || account >= ACCOUNTS || !isSort(sort)) {
            return NO_AMOUNT;
        }
        long together = 0;
        int kept = book.journal.kept();
        for (int k = 0; k < kept; k++) {
            if (book.journal.told(k, 0) == sort) {
                together += book.journal.told(k, Journal.HEAD + account);
            }
        }
        return together;
    }

    public long moved(int lease, int what) {
        Lease x = leaseAt(lease);
        if (x == null || what < 0 || what >= MOVED) {
            return NO_AMOUNT;
        }
        return x.moved[what];
    }

    public int choose(int lease) {
        if (leaseAt(lease) == null) {
            return NONE;
        }
        Lease x = runningAt(lease);
        if (x == null) {
            return REFUSED;
        }
        Lease trial = spare.leases[0];
        int best = 0;
        long bestOwed = x.owed;
        int bestLeft = x.left();
        for (int set = 1; set < 1 << MOST_OPTIONS; set++) {
            if (!book.canTakeSet(lease, set)) {
                continue;
            }
            trial.copyFrom(x);
            book.goOnBySet(trial, set);
            long owed = trial.worthLeft();
            if (owed * bestLeft < bestOwed * trial.left()) {
                best = set;
                bestOwed = owed;
                bestLeft = trial.left();
            }
        }
        return best;
    }

    public long life(int lease, boolean under) {
        Lease x = leaseAt(lease);
        if (x == null) {
            return NONE;
        }
        long far = 0;
        long together = 0;
        int off = x.stage == WAITING ? x.start - book.period : 0;
        for (int i = x.term - x.left(); i < x.term; i++) {
            far += x.due[i] * off;
            together += x.due[i];
            off++;
        }
        if (together == 0) {
            return REFUSED;
        }
        long common = commonDivisor(far, together);
        if (common == 0) {
            return REFUSED;
        }
        return (under ? together : far) / common;
    }

    public long peak(int what) {
        if (what < 0 || what > 1) {
            return NONE;
        }
        Book ahead = bookIn(0);
        int coming = coming(MOST_AHEAD);
        long most = 0;
        int when = 0;
        for (int i = 0; i < coming; i++) {
            long paid = ahead.periodPays();
            if (paid > most) {
                most = paid;
                when = i;
            }
        }
        if (most == 0) {
            return REFUSED;
        }
        return what == 0 ? when : most;
    }

    public int partFor(int lease, long g) {
        if (leaseAt(lease) == null) {
            return NONE;
        }
        Lease x = runningAt(lease);
        if (x == null) {
            return REFUSED;
        }
        for (int p = 1; p <= 999; p++) {
            if (x.partOf(x.owed, p) - x.partOf(x.used, p) >= g) {
                return p;
            }
        }
        return REFUSED;
    }

    public int latest(int lease, int sort) {
        if (leaseAt(lease) == null || !isSort(sort)) {
            return NONE;
        }
        int kept = book.journal.kept();
        for (int k = 0; k < kept; k++) {
            if (book.journal.told(k, 0) == sort && book.journal.told(k, 2) == lease) {
                return (int) book.journal.told(k, 1);
            }
        }
        return REFUSED;
    }

    public int half(int lease) {
        Lease x = leaseAt(lease);
        if (x == null || x.stage == WAITING) {
            return NONE;
        }
        if (x.owed == 0) {
            return 0;
        }
        Book ahead = bookIn(0);
        int coming = coming(MOST_AHEAD);
        for (int i = 1; i <= coming; i++) {
            ahead.periodGoesBy();
            // Twice the amount, so that half of an odd one isn't rounded.
            if (ahead.leases[lease].owed * 2 <= x.owed) {
                return i;
            }
        }
        return REFUSED;
    }

    public long cash(int i, int j) {
        if (i < 0 || j >= MOST_AHEAD || i > j) {
            return NONE;
        }
        Book ahead = bookIn(0);
        int coming = coming(j + 1);
        long together = 0;
        for (int at = 0; at < coming; at++) {
            long paid = ahead.periodPays();
            if (at >= i) {
                together += paid;
            }
        }
        return together;
    }

    public long ifIndex(int lease, int v) {
        if (leaseAt(lease) == null || !isIndex(v)) {
            return NONE;
        }
        Lease x = runningAt(lease);
        if (x == null) {
            return REFUSED;
        }
        if (!x.tied) {
            return x.owed;
        }
        Lease trial = spare.leases[0];
        trial.copyFrom(x);
        trial.followIndex(v);
        return trial.worthLeft();
    }

    public long ifTaken(int option) {
        if (!book.canTake(option)) {
            return NO_AMOUNT;
        }
        Option o = book.options[option];
        Lease x = book.leases[o.lease];
        Lease trial = spare.leases[0];
        trial.copyFrom(x);
        book.goOnByOption(trial, o);
        return trial.worthLeft() - x.owed;
    }

    public int yields(int lease, int k, long w) {
        Lease x = leaseAt(lease);
        if (x == null || !x.owns(k) || !isWorth(w)) {
            return NONE;
        }
        return x.greatestRate(k - 1, w);
    }

    public int level(int lease, long w) {
        Lease x = leaseAt(lease);
        if (x == null || !isWorth(w)) {
            return NONE;
        }
        return x.leastLevel(w);
    }

    public int heaviest() {
        int best = REFUSED;
        long bestOwed = 0;
        long bestLeft = 1;
        for (int i = 0; i < book.leaseCount; i++) {
            Lease x = book.leases[i];
            if (x.stage != RUNNING) {
                continue;
            }
            if (best == REFUSED || x.owed * bestLeft > bestOwed * x.left()) {
                best = i;
                bestOwed = x.owed;
                bestLeft = x.left();
            }
        }
        return best;
    }

    public long chance(int seed, int n, int what) {
        if (seed < -1 || n < 1 || n > 10 || what < 0 || what > 2) {
            return NONE;
        }
        if (book.period + YEAR > LAST_PERIOD) {
            return REFUSED;
        }
        long last = seed == -1 ? book.seed : seed;
        long together = 0;
        long greatest = 0;
        long least = 0;
        for (int i = 0; i < n; i++) {
            Book ahead = bookIn(0);
            last = ahead.yearByChance(last);
            long owed = ahead.allOwed();
            together += owed;
            greatest = i == 0 ? owed : Math.max(greatest, owed);
            least = i == 0 ? owed : Math.min(least, owed);
        }
        switch (what) {
            case 0: return together;
            case 1: return greatest;
            default: return least;
        }
    }

    public int undo() {
        if (pastCount < 1) {
            return NONE;
        }
        book.copyFrom(past[(pastFirst + pastCount - 1) % MOST_UNDONE]);
        pastCount--;
        return pastCount;
    }

    public int keep() {
        image.copyFrom(book);
        imageKept = true;
        return book.period;
    }

    public int back() {
        if (!imageKept) {
            return NONE;
        }
        book.copyFrom(image);
        forgetPast();
        return book.period;
    }

    public int count(int what) {
        switch (what) {
            case 0: return book.leaseCount;
            case 1: return book.optionCount;
            case 2: return book.period;
            case 3: return book.journal.kept();
            case 4: return book.journal.total;
            case 5: return book.runningLeases();
            case 6: return pastCount;
            case 7: return tapeSize;
            default: return NONE;
        }
    }

    private void putOnTape(int four) {
        for (int shift = 24; shift >= 0 && tapeSize < MOST_TAPE; shift -= 8) {
            tape[tapeSize] = (byte) (four >> shift);
            tapeSize++;
        }
    }

    private Lease leaseAt(int lease) {
        return lease >= 0 && lease < book.leaseCount ? book.leases[lease] : null;
    }

    private Lease runningAt(int lease) {
        Lease x = leaseAt(lease);
        return x != null && x.stage == RUNNING ? x : null;
    }

    private int coming(int n) {
        return Math.max(0, Math.min(n, LAST_PERIOD - book.period));
    }

    /** The spare book, as the ledger will be AS IT GOES: the ledger itself stays. */
    private Book bookIn(int n) {
        spare.copyFrom(book);
        int coming = coming(n);
        for (int i = 0; i < coming; i++) {
            spare.periodGoesBy();
        }
        return spare;
    }

    private void remember() {
        past[(pastFirst + pastCount) % MOST_UNDONE].copyFrom(book);
        if (pastCount < MOST_UNDONE) {
            pastCount++;
        } else {
            pastFirst = (pastFirst + 1) % MOST_UNDONE;
        }
    }

    private void forgetPast() {
        pastFirst = 0;
        pastCount = 0;
    }

    private static boolean isIndex(int v) {
        return v >= LEAST_INDEX && v <= MOST_INDEX;
    }

    private static boolean isSort(int sort) {
        return sort >= 0 && sort < SORTS;
    }

    private static boolean isWorth(long w) {
        return w >= 1 && w <= MOST_WORTH;
    }

    private static long commonDivisor(long a, long b) {
        long x = a;
        long y = b;
        for (int i = 0; i < 200 && y != 0; i++) {
            long rest = x % y;
            x = y;
            y = rest;
        }
        return x;
    }

    /** x times up by under, downwards; taken apart so that only the answer itself must fit a long. */
    private static long shareDown(long x, long up, long under) {
        if (under <= 0) {
            return 0;
        }
        return x / under * up + x % under * up / under;
    }

    /** x times up by under, ROUNDED. */
    private static long shareRounded(long x, long up, long under) {
        if (under <= 0) {
            return 0;
        }
        return x / under * up + (x % under * up * 2 + under) / (under * 2);
    }

    /** The words of the language, each with its letters as named() takes them. */
    private enum Kind {
        LEASE("lease"), PAY("pay"), EARLY("early"), FAIR("fair"), FEE("fee"), TIED("tied"),
        INDEX("index"), OPTION("option"), SEED("seed");

        final int code;

        Kind(String word) {
            int letters = 0;
            for (int i = 0; i < 6; i++) {
                letters = letters * 32 + (i < word.length() ? word.charAt(i) - 'a' + 1 : 0);
            }
            code = letters;
        }
    }

    /** Reads a TEXT into a cleared book; behind the first fault nothing more is taken. It keeps the fault. */
    private static final class Reader {
        static final int END = 0;
        static final int WORD = 1;
        static final int NUMBER = 2;
        static final int STOP = 3;
        static final int NO_TOKEN = 4;

        static final int FAULT_TOKEN = 1;
        static final int FAULT_TOO_MUCH = 2;
        static final int FAULT_TOLD = 3;
        static final int FAULT_UNTOLD = 4;

        static final int TOLD_EARLY = 1;
        static final int TOLD_FAIR = 2;
        static final int TOLD_FEE = 4;
        static final int TOLD_TIED = 8;

        static final int MOST_LETTERS = 6;
        /** Beyond every bound, so longer numbers need not be told apart. */
        static final int HUGE = 100000000;

        final byte[] bytes;
        int length;
        Book book;
        /** Bits of each lease: what was told of it and may not be told again. */
        final int[] toldOf = new int[MOST_LEASES];
        int next;
        int start;
        int token;
        int value;
        int pays;
        boolean seedTold;
        int lines;
        int fault;
        int place = NONE;

        Reader(byte[] bytes, Book book) {
            this.bytes = bytes;
            this.book = book;
        }

        void begin(int n, Book cleared) {
            length = Math.min(n, bytes.length);
            book = cleared;
            Arrays.fill(toldOf, 0);
            next = 0;
            pays = 0;
            seedTold = false;
            lines = 0;
            fault = 0;
            place = NONE;
        }

        void read() {
            advance();
            for (int i = 0; i < MOST_TAPE && fault == 0 && token != END; i++) {
                readLine();
                readStop();
            }
        }

        void readLine() {
            Kind kind = token == WORD ? kindOf(value) : null;
            if (kind == null) {
                fail(FAULT_TOKEN);
                return;
            }
            switch (kind) {
                case LEASE: readLease(); break;
                case PAY: readPay(); break;
                case EARLY: readEarly(); break;
                case FAIR: readFair(); break;
                case FEE: readFee(); break;
                case TIED: readTied(); break;
                case INDEX: readIndex(); break;
                case OPTION: readOption(); break;
                default: readSeed(); break;
            }
        }

        void readLease() {
            startLine(book.leaseCount >= MOST_LEASES ? FAULT_TOO_MUCH : 0);
            int name = readNewName();
            int begins = readNumber(0, 20);
            int term = readNumber(1, MOST_TOLD_TERM);
            int rate = readNumber(0, MOST_RATE);
            if (fault == 0) {
                book.addLease(name, begins, term, rate);
            }
        }

        void readPay() {
            startLine(pays >= MOST_PAYS ? FAULT_TOO_MUCH : 0);
            int lease = readToldName();
            int first = readNumber(1, MOST_TOLD_TERM);
            int last = readNumber(first, MOST_TOLD_TERM);
            int each = readNumber(0, 99999);
            if (fault == 0) {
                pays++;
                book.leases[lease].payMore(first - 1, last - 1, each);
            }
        }

        void readEarly() {
            startLine(0);
            int lease = readNameOnce(TOLD_EARLY);
            if (fault == 0) {
                book.leases[lease].early = true;
            }
        }

        void readFair() {
            startLine(0);
            int lease = readNameOnce(TOLD_FAIR);
            int fair = readNumber(1, 9999999);
            if (fault == 0) {
                book.leases[lease].fair = fair;
            }
        }

        void readFee() {
            startLine(0);
            int lease = readNameOnce(TOLD_FEE);
            int fee = readNumber(0, 99999);
            if (fault == 0) {
                book.leases[lease].fee = fee;
            }
        }

        void readTied() {
            startLine(0);
            int lease = readNameOnce(TOLD_TIED);
            if (fault == 0) {
                book.leases[lease].tied = true;
            }
        }

        void readIndex() {
            startLine(book.toldCount >= MOST_INDEXES ? FAULT_TOO_MUCH : 0);
            int period = readNumber(book.lastTold() + 1, LAST_PERIOD);
            int index = readNumber(LEAST_INDEX, MOST_INDEX);
            if (fault == 0) {
                book.addIndex(period, index);
            }
        }

        void readOption() {
            startLine(book.optionCount >= MOST_OPTIONS ? FAULT_TOO_MUCH : 0);
            int lease = readToldName();
            int more = readNumber(1, MOST_MORE);
            int each = readNumber(0, 99999);
            if (fault == 0) {
                book.addOption(lease, more, each);
            }
        }

        void readSeed() {
            startLine(seedTold ? FAULT_TOLD : 0);
            int seed = readNumber(0, 99999);
            if (fault == 0) {
                seedTold = true;
                book.seed = seed;
            }
        }

        /** Goes behind the word of a LINE, unless the LINE may not come at all. */
        void startLine(int refusal) {
            if (refusal != 0) {
                fail(refusal);
                return;
            }
            advance();
        }

        void readStop() {
            if (fault != 0) {
                return;
            }
            if (token != STOP) {
                fail(FAULT_TOKEN);
                return;
            }
            lines++;
            advance();
        }

        int readNumber(int low, int high) {
            if (fault != 0) {
                return 0;
            }
            if (token != NUMBER) {
                fail(FAULT_TOKEN);
                return 0;
            }
            if (value < low || value > high) {
                fail(FAULT_TOO_MUCH);
                return 0;
            }
            int number = value;
            advance();
            return number;
        }

        int readNewName() {
            int at = start;
            int name = readName();
            if (book.leaseNamed(name) != NONE) {
                failAt(FAULT_TOLD, at);
            }
            return name;
        }

        int readToldName() {
            int at = start;
            int lease = book.leaseNamed(readName());
            if (lease == NONE) {
                failAt(FAULT_UNTOLD, at);
            }
            return lease;
        }

        int readNameOnce(int bit) {
            int at = start;
            int lease = book.leaseNamed(readName());
            if (lease < 0 || lease >= MOST_LEASES) {
                failAt(FAULT_UNTOLD, at);
                return NONE;
            }
            if ((toldOf[lease] & bit) != 0) {
                failAt(FAULT_TOLD, at);
            }
            toldOf[lease] |= bit;
            return lease;
        }

        /** The letters of a W. */
        int readName() {
            if (fault != 0) {
                return NONE;
            }
            if (token != WORD || value == NONE || kindOf(value) != null) {
                fail(FAULT_TOKEN);
                return NONE;
            }
            int letters = value;
            advance();
            return letters;
        }

        void fail(int sort) {
            failAt(sort, start);
        }

        /** Only the first fault counts: what comes behind it is read no more. */
        void failAt(int sort, int at) {
            if (fault == 0) {
                fault = sort;
                place = at;
            }
        }

        Kind kindOf(int letters) {
            for (int i = 0; i < KINDS.length; i++) {
                if (KINDS[i].code == letters) {
                    return KINDS[i];
                }
            }
            return null;
        }

        void advance() {
            while (next < length && (bytes[next] == 10 || bytes[next] == 32)) {
                next++;
            }
            start = next;
            token = tokenAt(next);
            if (token == WORD) {
                advanceWord();
            } else if (token == NUMBER) {
                advanceNumber();
            } else if (token != END) {
                next++;
            }
        }

        void advanceWord() {
            value = 0;
            while (next < length && bytes[next] >= 'a' && bytes[next] <= 'z') {
                value = next - start < MOST_LETTERS ? value * 32 + bytes[next] - 'a' + 1 : NONE;
                next++;
            }
            for (int i = next - start; i < MOST_LETTERS; i++) {
                value = value * 32;
            }
        }

        void advanceNumber() {
            value = 0;
            while (next < length && bytes[next] >= '0' && bytes[next] <= '9') {
                value = value >= HUGE ? HUGE : value * 10 + bytes[next] - '0';
                next++;
            }
        }

        int tokenAt(int at) {
            if (at < 0 || at >= length) {
                return END;
            }
            int sign = bytes[at];
            if (sign >= 'a' && sign <= 'z') {
                return WORD;
            }
            if (sign >= '0' && sign <= '9') {
                return NUMBER;
            }
            return sign == ';' ? STOP : NO_TOKEN;
        }
    }

    /** One LEASE; own period k is at k - 1 of its rows. */
    private static final class Lease {
        int name;
        int start;
        int term;
        int rate;
        int fair;
        int fee;
        int base;
        int indexed;
        int gone;
        int stage;
        boolean found;
        boolean early;
        boolean tied;
        long owed;
        long used;
        final long[] moved = new long[MOVED];
        final long[] due = new long[MOST_TERM];
        final long[] setting = new long[MOST_TERM];

        void tell(int itsName, int begins, int periods, int itsRate) {
            name = itsName;
            start = begins;
            term = periods;
            rate = itsRate;
            fair = 0;
            fee = 0;
            base = 0;
            indexed = 0;
            gone = 0;
            stage = WAITING;
            found = false;
            early = false;
            tied = false;
            owed = 0;
            used = 0;
            Arrays.fill(moved, 0L);
            Arrays.fill(due, 0L);
            Arrays.fill(setting, 0L);
        }

        void copyFrom(Lease other) {
            name = other.name;
            start = other.start;
            term = other.term;
            rate = other.rate;
            fair = other.fair;
            fee = other.fee;
            base = other.base;
            indexed = other.indexed;
            gone = other.gone;
            stage = other.stage;
            found = other.found;
            early = other.early;
            tied = other.tied;
            owed = other.owed;
            used = other.used;
            System.arraycopy(other.moved, 0, moved, 0, MOVED);
            System.arraycopy(other.due, 0, due, 0, MOST_TERM);
            System.arraycopy(other.setting, 0, setting, 0, MOST_TERM);
        }

        boolean owns(int k) {
            return k >= 1 && k <= term && k <= MOST_TERM;
        }

        int left() {
            return stage == ENDED ? 0 : term - gone;
        }

        void payMore(int first, int last, int each) {
            for (int i = first; i <= last && i < MOST_TERM; i++) {
                due[i] += each;
                setting[i] += each;
            }
        }

        long worthLeft() {
            return worthFrom(gone, rate);
        }

        long worthFrom(int first, int r) {
            long worth = 0;
            for (int i = Math.min(term, MOST_TERM) - 1; i >= first && i >= 0; i--) {
                worth = worthWith(worth, due[i], r);
            }
            return worth;
        }

        long worthOfLevel(long each) {
            long worth = 0;
            for (int i = 0; i < term; i++) {
                worth = worthWith(worth, each, rate);
            }
            return worth;
        }

        long worthWith(long behind, long paid, int r) {
            long grown = MILLION + r;
            return early ? paid + shareRounded(behind, MILLION, grown)
                : shareRounded(behind + paid, MILLION, grown);
        }

        long interestOn(long x) {
            return shareRounded(x, rate, MILLION);
        }

        long partOf(long x, int p) {
            return shareDown(x, p, THOUSAND);
        }

        /** WORTH is never more by a greater rate, so halving the span finds the greatest one. */
        int greatestRate(int first, long w) {
            if (worthFrom(first, 0) < w) {
                return REFUSED;
            }
            int low = 0;
            int high = MOST_RATE;
            for (int i = 0; i < 32 && low < high; i++) {
                int middle = (low + high + 1) / 2;
                if (worthFrom(first, middle) >= w) {
                    low = middle;
                } else {
                    high = middle - 1;
                }
            }
            return low;
        }

        /** WORTH is never less by a greater amount, so halving the span finds the least one. */
        int leastLevel(long w) {
            if (worthOfLevel(MOST_LEVEL) < w) {
                return REFUSED;
            }
            int low = 0;
            int high = MOST_LEVEL;
            for (int i = 0; i < 32 && low < high; i++) {
                int middle = (low + high) / 2;
                if (worthOfLevel(middle) >= w) {
                    high = middle;
                } else {
                    low = middle + 1;
                }
            }
            return low;
        }

        void followIndex(int index) {
            indexed = index;
            for (int i = gone; i < term && i < MOST_TERM; i++) {
                due[i] = shareDown(setting[i], index, base);
            }
        }

        void goOnAsLast(int n) {
            if (owns(term)) {
                goOn(n, due[term - 1], setting[term - 1]);
            }
        }

        void goOn(int n, long itsDue, long itsSetting) {
            for (int i = 0; i < n && term < MOST_TERM; i++) {
                due[term] = itsDue;
                setting[term] = itsSetting;
                term++;
            }
        }

        void keepPart(long ofThousand) {
            for (int i = gone; i < term && i < MOST_TERM; i++) {
                due[i] = shareDown(due[i], ofThousand, THOUSAND);
                setting[i] = shareDown(setting[i], ofThousand, THOUSAND);
            }
        }

        void movePayment(int from, int to) {
            due[to] += due[from];
            setting[to] += setting[from];
            due[from] = 0;
            setting[from] = 0;
        }

        /** What is OWED behind the own period that goes by. */
        long owedThen(long paid) {
            if (left() <= 1) {
                return 0;
            }
            if (early) {
                long rest = Math.max(0L, owed - paid);
                return rest + interestOn(rest);
            }
            return Math.max(0L, owed + interestOn(owed) - paid);
        }
    }

    private static final class Option {
        int lease;
        int more;
        int each;
        boolean taken;

        void copyFrom(Option other) {
            lease = other.lease;
            more = other.more;
            each = other.each;
            taken = other.taken;
        }
    }

    /** The ACCOUNTS, and the latest ENTRIES in a ring of rows: sort, PERIOD, LEASE, amounts. */
    private static final class Journal {
        static final int HEAD = 3;
        static final int WIDTH = HEAD + ACCOUNTS;
        static final int MOST_KEPT = 40;

        final long[] rows = new long[WIDTH * MOST_KEPT];
        final long[] accounts = new long[ACCOUNTS];
        int total;

        void clear() {
            total = 0;
            Arrays.fill(accounts, 0L);
        }

        void copyFrom(Journal other) {
            total = other.total;
            System.arraycopy(other.rows, 0, rows, 0, WIDTH * MOST_KEPT);
            System.arraycopy(other.accounts, 0, accounts, 0, ACCOUNTS);
        }

        int kept() {
            return Math.min(total, MOST_KEPT);
        }

        void open(int sort, int period, int lease) {
            int at = total % MOST_KEPT * WIDTH;
            total++;
            rows[at] = sort;
            rows[at + 1] = period;
            rows[at + 2] = lease;
            Arrays.fill(rows, at + HEAD, at + WIDTH, 0L);
        }

        void put(int account, long amount) {
            if (total < 1 || account < 0 || account >= ACCOUNTS) {
                return;
            }
            rows[(total - 1) % MOST_KEPT * WIDTH + HEAD + account] += amount;
            accounts[account] += amount;
        }

        long told(int k, int column) {
            if (k < 0 || k >= kept() || column < 0 || column >= WIDTH) {
                return 0;
            }
            return rows[(total - 1 - k) % MOST_KEPT * WIDTH + column];
        }
    }

    /** All that an IMAGE keeps and an undoing brings back. */
    private static final class Book {
        final Lease[] leases = new Lease[MOST_LEASES];
        final Option[] options = new Option[MOST_OPTIONS];
        final int[] indexes = new int[LAST_PERIOD + 1];
        final int[] toldPeriods = new int[MOST_INDEXES];
        final Journal journal = new Journal();
        int leaseCount;
        int optionCount;
        int toldCount;
        int period;
        int seed;

        Book() {
            for (int i = 0; i < MOST_LEASES; i++) {
                leases[i] = new Lease();
            }
            for (int i = 0; i < MOST_OPTIONS; i++) {
                options[i] = new Option();
            }
            Arrays.fill(indexes, FIRST_INDEX);
        }

        void clear() {
            leaseCount = 0;
            optionCount = 0;
            toldCount = 0;
            period = 0;
            seed = 0;
            Arrays.fill(indexes, FIRST_INDEX);
            journal.clear();
        }

        void copyFrom(Book other) {
            leaseCount = other.leaseCount;
            optionCount = other.optionCount;
            toldCount = other.toldCount;
            period = other.period;
            seed = other.seed;
            System.arraycopy(other.indexes, 0, indexes, 0, LAST_PERIOD + 1);
            System.arraycopy(other.toldPeriods, 0, toldPeriods, 0, MOST_INDEXES);
            journal.copyFrom(other.journal);
            for (int i = 0; i < leaseCount; i++) {
                leases[i].copyFrom(other.leases[i]);
            }
            for (int i = 0; i < optionCount; i++) {
                options[i].copyFrom(other.options[i]);
            }
        }

        void addLease(int name, int begins, int term, int rate) {
            if (leaseCount < MOST_LEASES) {
                leases[leaseCount].tell(name, begins, term, rate);
                leaseCount++;
            }
        }

        void addOption(int lease, int more, int each) {
            if (optionCount < MOST_OPTIONS) {
                Option o = options[optionCount];
                o.lease = lease;
                o.more = more;
                o.each = each;
                o.taken = false;
                optionCount++;
            }
        }

        void addIndex(int from, int index) {
            if (toldCount < MOST_INDEXES && from >= 0 && from <= LAST_PERIOD) {
                toldPeriods[toldCount] = from;
                toldCount++;
                Arrays.fill(indexes, from, LAST_PERIOD + 1, index);
            }
        }

        int lastTold() {
            return toldCount > 0 ? toldPeriods[toldCount - 1] : -1;
        }

        int leaseNamed(int letters) {
            for (int i = 0; i < leaseCount; i++) {
                if (leases[i].name == letters) {
                    return i;
                }
            }
            return NONE;
        }

        void findRates() {
            for (int i = 0; i < leaseCount; i++) {
                Lease x = leases[i];
                int rate = x.fair > 0 ? x.greatestRate(0, x.fair) : REFUSED;
                if (rate >= 0) {
                    x.rate = rate;
                    x.found = true;
                }
            }
        }

        int runningLeases() {
            int running = 0;
            for (int i = 0; i < leaseCount; i++) {
                if (leases[i].stage == RUNNING) {
                    running++;
                }
            }
            return running;
        }

        long allOwed() {
            long together = 0;
            for (int i = 0; i < leaseCount; i++) {
                together += leases[i].owed;
            }
            return together;
        }

        long allPaid() {
            long together = 0;
            for (int i = 0; i < leaseCount; i++) {
                together += leases[i].moved[MOVED_PAID];
            }
            return together;
        }

        int indexNow() {
            return period >= 0 && period <= LAST_PERIOD ? indexes[period] : FIRST_INDEX;
        }

        void changeIndex(int index) {
            int stop = LAST_PERIOD + 1;
            for (int i = toldCount - 1; i >= 0 && toldPeriods[i] > period; i--) {
                stop = toldPeriods[i];
            }
            for (int i = period; i < stop && i <= LAST_PERIOD; i++) {
                indexes[i] = index;
            }
        }

        /** A PERIOD goes by: what is paid in it. */
        long periodPays() {
            long ahead = allPaid();
            periodGoesBy();
            return allPaid() - ahead;
        }

        void periodGoesBy() {
            if (period >= LAST_PERIOD) {
                return;
            }
            for (int i = 0; i < leaseCount; i++) {
                Lease x = leases[i];
                if (x.stage == WAITING && x.start == period) {
                    begin(i, x);
                } else if (x.stage == RUNNING && x.tied && indexNow() != x.indexed) {
                    x.followIndex(indexNow());
                    remeasure(i, x);
                }
                if (x.stage == RUNNING) {
                    payAndWriteOff(i, x);
                }
            }
            period++;
        }

        void begin(int lease, Lease x) {
            x.stage = RUNNING;
            x.base = indexNow();
            x.indexed = x.base;
            x.owed = x.worthFrom(0, x.rate);
            x.used = x.owed + x.fee;
            x.moved[MOVED_BEGUN] = x.owed;
            journal.open(SORT_BEGUN, period, lease);
            journal.put(USED, x.used);
            journal.put(OWED, -x.owed);
            journal.put(CASH, -x.fee);
        }

        void payAndWriteOff(int lease, Lease x) {
            int left = x.left();
            if (left < 1 || x.gone < 0 || x.gone >= MOST_TERM) {
                return;
            }
            long paid = x.due[x.gone];
            long owedThen = x.owedThen(paid);
            // One sum serves all cases: what the payment takes beyond OWED is INTEREST.
            long interest = owedThen - x.owed + paid;
            long writtenOff = x.used / left;
            journal.open(SORT_PERIOD, period, lease);
            journal.put(CASH, -paid);
            journal.put(OWED, x.owed - owedThen);
            journal.put(USED, -writtenOff);
            journal.put(INTEREST, interest);
            journal.put(WRITTEN_OFF, writtenOff);
            x.owed = owedThen;
            x.used -= writtenOff;
            x.moved[MOVED_INTEREST] += interest;
            x.moved[MOVED_PAID] += paid;
            x.gone++;
            if (x.gone >= x.term) {
                x.stage = ENDED;
            }
        }

        /** RE-MEASURED: by how much OWED is more then. */
        long remeasure(int lease, Lease x) {
            long owedThen = x.worthFrom(x.gone, x.rate);
            long more = owedThen - x.owed;
            long usedThen = Math.max(0L, x.used + more);
            journal.open(SORT_MEASURED, period, lease);
            journal.put(OWED, -more);
            journal.put(USED, usedThen - x.used);
            journal.put(GAIN, more - (usedThen - x.used));
            x.owed = owedThen;
            x.used = usedThen;
            x.moved[MOVED_MEASURED] += more;
            return more;
        }

        /** OWED and USED are less by so much: the GAIN of it. */
        long giveBack(int lease, Lease x, long owedLess, long usedLess, int sort) {
            long gain = owedLess - usedLess;
            journal.open(sort, period, lease);
            journal.put(OWED, owedLess);
            journal.put(USED, -usedLess);
            journal.put(GAIN, -gain);
            x.owed -= owedLess;
            x.used -= usedLess;
            x.moved[MOVED_LESS] += owedLess;
            return gain;
        }

        void writeDown(int lease, Lease x, long v) {
            x.used -= v;
            journal.open(SORT_DOWN, period, lease);
            journal.put(USED, -v);
            journal.put(GAIN, v);
        }

        boolean canTake(int option) {
            return option >= 0 && option < optionCount
                && canTakeSet(options[option].lease, 1 << option);
        }

        /** Whether options (bits) are this running LEASE's, none of them taken, and TERM has room for all. */
        boolean canTakeSet(int lease, int set) {
            if (lease < 0 || lease >= leaseCount || leases[lease].stage != RUNNING) {
                return false;
            }
            int term = leases[lease].term;
            for (int i = 0; i < MOST_OPTIONS; i++) {
                if ((set >> i & 1) == 0) {
                    continue;
                }
                if (i >= optionCount || options[i].lease != lease || options[i].taken) {
                    return false;
                }
                term += options[i].more;
            }
            return term <= MOST_TERM;
        }

        void goOnBySet(Lease x, int set) {
            for (int i = 0; i < optionCount; i++) {
                if ((set >> i & 1) != 0) {
                    goOnByOption(x, options[i]);
                }
            }
        }

        void goOnByOption(Lease x, Option o) {
            x.goOn(o.more, o.each, o.each);
            if (x.tied) {
                x.followIndex(indexNow());
            }
        }

        /** BY CHANCE once, from a number on: the last number that was drawn from. */
        long yearByChance(long number) {
            long last = number;
            for (int i = 0; i < YEAR; i++) {
                last = last * 1103515245L + 12345L & 2147483647L;
                int step = (int) (last / 65536L % 21L) - 10;
                changeIndex(Math.max(LEAST_INDEX, Math.min(MOST_INDEX, indexNow() + step)));
                periodGoesBy();
            }
            return last;
        }
    }
}
