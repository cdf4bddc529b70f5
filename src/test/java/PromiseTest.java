/** Each promise of the document: ordinary inputs, the edges that it names, wrong inputs; reckoned by hand. */
public final class PromiseTest {
    private static final long NO = Check.NO;
    /** Paid at the end: 1100 twice by a tenth, worth 1909; 1000 behind the first. */
    private static final String PLAIN = "lease a 0 2 100000;pay a 1 2 1100;option a 2 500;";
    /** Rate 0, tied, begins at once. */
    private static final String TIED = "lease t 0 4 0;pay t 1 4 1001;tied t;option t 2 100;";

    private PromiseTest() {
    }

    public static void main(String[] args) {
        p1New();
        p2Feed();
        p3Text();
        p4Fault();
        p4FaultOrder();
        p5Named();
        p6Go();
        p6GoEndsPaid();
        p6GoEarly();
        p6GoIndexed();
        p7Lease();
        p7Found();
        p8Amount();
        p9Due();
        p10Worth();
        p11Index();
        p12Account();
        p13Entry();
        p14Rate();
        p15Extend();
        p16Take();
        p17Part();
        p18End();
        p19Down();
        p20PutOff();
        p21Become();
        p22Plan();
        p23All();
        p24Soon();
        p25Sum();
        p26Moved();
        p27Choose();
        p28Life();
        p29Peak();
        p30PartFor();
        p31Latest();
        p32Half();
        p33Cash();
        p34IfIndex();
        p35IfTaken();
        p36Yields();
        p37Level();
        p38Heaviest();
        p39Chance();
        p40Undo();
        p41Keep();
        p42Back();
        p43Count();
        refusedChangesNothing();
        Check.end();
    }

    private static void is(String what, long got, long want) {
        Check.due(what, got, want);
    }

    private static LeaseLedger begun(String text) {
        LeaseLedger x = Check.told(text);
        is("go(1)", x.go(1), 1);
        return x;
    }

    private static void p1New() {
        LeaseLedger x = new LeaseLedger();
        for (int what = 0; what < 8; what++) {
            is("1 count(" + what + ")", x.count(what), 0);
        }
        is("1 fault", x.fault(0), 0);
        is("1 place", x.fault(1), -1);
        is("1 NONE", LeaseLedger.NONE, -1);
    }

    private static void p2Feed() {
        LeaseLedger x = new LeaseLedger();
        for (int i = 1; i <= 35; i++) {
            is("2 feed", x.feed(0x20202020, 0x20202020, 0x20202020, 0x20202020, 0x20202020), 20 * i);
        }
        is("2 feed beyond 700", x.feed(0, 0, 0, 0, 0), -1);
        is("2 tape stays", x.count(7), 700);
        is("2 text of 700 blanks", x.text(700), 0);
        is("2 feed anew", x.feed(-1, -1, -1, -1, -1), 20);
        // "seed 1;" + 'a' in the lowest place of the second number: the highest byte comes first.
        LeaseLedger y = new LeaseLedger();
        y.feed(0x73656564, 0x20313b61, 0, 0, 0);
        is("2 order of bytes", y.text(7), 1);
        y.feed(0x73656564, 0x20313b61, 0, 0, 0);
        is("2 the eighth byte", y.text(8), -1);
        is("2 its place", y.fault(1), 7);
    }

    private static void p3Text() {
        LeaseLedger x = new LeaseLedger();
        Check.feed(x, Check.bytes(PLAIN));
        int size = x.count(7);
        is("3 more than there are", x.text(size + 1), -2);
        is("3 below 0", x.text(-1), -2);
        is("3 the tape stays", x.count(7), size);
        is("3 lines", x.text(PLAIN.length()), 3);
        is("3 the tape is empty", x.count(7), 0);
        is("3 leases", x.count(0), 1);
        is("3 options", x.count(1), 1);
        x.go(1);
        x.keep();
        is("3 fault", Check.tell(x, "lease b 0 2 5"), -1);
        is("3 the tape is empty then too", x.count(7), 0);
        is("3 all else stays", x.amount(0, 0), 1000);
        is("3 the period stays", x.count(2), 1);
        is("3 entries stay", x.count(3), 2);
        is("3 what can be undone stays", x.count(6), 1);
        is("3 the image stays", x.back(), 1);
        is("3 a new text", Check.tell(x, "lease b 1 2 5 ;\n seed 3 ;lease c 0 1 0;"), 3);
        is("3 period", x.count(2), 0);
        is("3 no entries", x.count(4), 0);
        is("3 none kept", x.count(3), 0);
        is("3 no image", x.back(), -1);
        is("3 nothing to undo", x.undo(), -1);
        is("3 accounts", x.account(0), 0);
        is("3 not begun", Check.lease(x, 0, 3), 0);
        is("3 leases anew", x.count(0), 2);
        is("3 no options", x.count(1), 0);
        is("3 an empty text", x.text(0), 0);
        is("3 no leases", x.count(0), 0);
        is("3 without blanks", Check.tell(x, "lease a0 2 5;lease b 1 2 7;early a;"), 3);
        is("3 a word ends at a digit", Check.lease(x, 0, 1), 2);
        is("3 digits with zeros ahead", Check.tell(x, "lease a 000000000000000000020 0048 00;"), 1);
        is("3 begins", Check.lease(x, 0, 0), 20);
        is("3 term", Check.lease(x, 0, 1), 48);
    }

    private static void fault(String text, int sort, int place) {
        LeaseLedger x = new LeaseLedger();
        is("4 text \"" + text + "\"", Check.tell(x, text), -1);
        is("4 fault of \"" + text + "\"", x.fault(0), sort);
        is("4 place in \"" + text + "\"", x.fault(1), place);
    }

    /** The place is where '!' stands in the marked text; the '!' itself isn't told. */
    private static void faultAt(int sort, String marked) {
        int place = marked.indexOf('!');
        fault(marked.substring(0, place) + marked.substring(place + 1), sort, place);
    }

    private static String times(int n, String part) {
        return part.repeat(n);
    }

    private static void p4Fault() {
        LeaseLedger x = Check.told("seed 1;");
        is("4 none", x.fault(0), 0);
        is("4 no place", x.fault(1), -1);
        is("4 another what", x.fault(2), -1);
        is("4 another what", x.fault(-1), -1);
        Check.tell(x, ";");
        is("4 fault", x.fault(0), 1);
        is("4 its place", x.fault(1), 0);
        is("4 text -2", x.text(99), -2);
        is("4 the fault of the one ahead", x.fault(0), 1);
        Check.tell(x, "seed 1;");
        is("4 mended", x.fault(0), 0);
        is("4 mended", x.fault(1), -1);

        faultAt(1, "seed 1;!;");
        faultAt(1, "!a 1;");
        faultAt(1, "!1;");
        faultAt(1, "seed!");
        faultAt(1, "seed  !");
        faultAt(1, "seed 1!");
        faultAt(1, "seed !x;");
        faultAt(1, "seed !-1;");
        faultAt(1, "seed 1 !1;");
        faultAt(1, "!Seed 1;");
        faultAt(1, "seed 1;!\t");
        faultAt(1, "seed 1;!" + (char) 233);
        faultAt(1, "seed 1;!" + (char) 0);
        faultAt(1, "lease !abcdefg 0 1 0;");
        faultAt(1, "!seeds 1;");
        faultAt(1, "!optional 1;");
        faultAt(1, "lease !pay 0 1 0;");
        faultAt(1, "lease !3 0 1 0;");
        faultAt(1, "lease a 0 1!;");
        faultAt(1, "lease a 0 1 0;early !lease;");
        faultAt(1, "lease a 0 1 0;pay !abcdefg 1 1 1;");
        faultAt(1, "lease a 0 1 0;pay a 1 !;");
        faultAt(1, "lease a 0 1 0 !0;");
        faultAt(1, "lease a!B 0 1 0;");

        faultAt(2, "lease a !21 1 0;");
        faultAt(2, "lease a 0 !0 0;");
        faultAt(2, "lease a 0 !49 0;");
        faultAt(2, "lease a 0 1 !200001;");
        faultAt(2, "lease a 0 1 !99999999999999999999;");
        faultAt(2, "lease a 0 1 !4294967296;");
        faultAt(2, "lease a 0 1 0;pay a !0 1 1;");
        faultAt(2, "lease a 0 1 0;pay a !49 49 1;");
        faultAt(2, "lease a 0 1 0;pay a 1 !49 1;");
        faultAt(2, "lease a 0 1 0;pay a 3 !2 1;");
        faultAt(2, "lease a 0 1 0;pay a 1 1 !100000;");
        faultAt(2, "lease a 0 1 0;fair a !0;");
        faultAt(2, "lease a 0 1 0;fair a !10000000;");
        faultAt(2, "lease a 0 1 0;fee a !100000;");
        faultAt(2, "index !100 1000;");
        faultAt(2, "index 0 !499;");
        faultAt(2, "index 0 !2001;");
        faultAt(2, "index 5 600;index !5 600;");
        faultAt(2, "index 5 600;index !4 600;");
        faultAt(2, "lease a 0 1 0;option a !0 1;");
        faultAt(2, "lease a 0 1 0;option a !25 1;");
        faultAt(2, "lease a 0 1 0;option a 1 !100000;");
        faultAt(2, "seed !100000;");
        String four = "lease a 0 1 0;lease b 0 1 0;lease c 0 1 0;lease d 0 1 0;";
        is("4 four leases", Check.told(four).count(0), 4);
        faultAt(2, four + "!lease e 0 1 0;");
        String options = "lease a 0 1 0;" + times(4, "option a 1 1;");
        is("4 four options", Check.told(options).count(1), 4);
        faultAt(2, options + "!option a 1 1;");
        String pays = "lease a 0 1 0;" + times(12, "pay a 1 1 99999;");
        is("4 twelve pays", Check.told(pays).due(0, 1), 1199988);
        faultAt(2, pays + "!pay a 1 1 1;");
        StringBuilder indexes = new StringBuilder();
        for (int i = 0; i < 8; i++) {
            indexes.append("index ").append(92 + i).append(" 500;");
        }
        is("4 eight indexes", Check.told(indexes.toString()).index(99), 500);
        faultAt(2, indexes + "!index 99 500;");

        faultAt(3, "lease a 0 1 0;lease !a 0 1 0;");
        for (String kind : new String[] {"early a", "tied a", "fair a 1", "fee a 0"}) {
            String word = kind.substring(0, kind.indexOf(' ') + 1);
            String two = "lease a 0 1 0;lease b 0 1 0;" + kind + ";";
            faultAt(3, two + word + "!" + kind.substring(word.length()) + ";");
            is("4 " + word + "of the other one", Check.told(two + kind.replace(" a", " b") + ";").fault(0), 0);
        }
        faultAt(3, "seed 0;!seed 0;");

        for (String kind : new String[] {"pay !b 1 1 1", "early !b", "fair !b 1", "fee !b 1", "tied !b", "option !b 1 1"}) {
            faultAt(4, "lease a 0 1 0;" + kind + ";lease b 0 1 0;");
        }
        faultAt(4, "lease a 0 1 0;pay !aa 1 1 1;");
    }

    private static void p4FaultOrder() {
        // The first along the text, whatever its sort.
        faultAt(4, "pay !a 0 1 1;;");
        faultAt(2, "lease a !21 0 999999 Q");
        faultAt(3, "seed 1;!seed 999999;");
        faultAt(2, times(1, "lease a 0 1 0;") + times(4, "option a 1 1;") + "!option b 0 0");
        faultAt(2, "lease a 0 1 0;lease b 0 1 0;lease c 0 1 0;lease d 0 1 0;!lease a");
        faultAt(2, "lease a 0 1 0;pay a 3 !1 999999;");
        faultAt(3, "lease a 0 1 0;early a;early !a");
    }

    private static void p5Named() {
        LeaseLedger x = Check.told("lease a 0 1 0;lease zzzzzz 0 1 0;lease ab 0 1 0;");
        is("5 a", x.named(1 << 25), 0);
        is("5 zzzzzz", x.named(Check.letters("zzzzzz")), 1);
        is("5 ab", x.named(1 << 25 | 2 << 20), 2);
        is("5 b", x.named(2 << 25), -1);
        is("5 a, at the wrong end", x.named(1), -1);
        is("5 nothing", x.named(0), -1);
        is("5 below 0", x.named(-1), -1);
        is("5 a and a bit above", x.named(1 << 25 | 1 << 30), -1);
    }

    private static void p6Go() {
        LeaseLedger x = Check.told(PLAIN);
        is("6 go(0)", x.go(0), -1);
        is("6 go(13)", x.go(13), -1);
        is("6 go(-1)", x.go(-1), -1);
        is("6 stays", x.count(2), 0);
        for (int i = 1; i <= 8; i++) {
            is("6 go(12)", x.go(12), 12 * i);
        }
        is("6 beyond 99", x.go(4), -2);
        is("6 no such n goes ahead", x.go(13), -1);
        is("6 up to 99", x.go(3), 99);
        is("6 beyond", x.go(1), -2);
        is("6 no such n goes ahead", x.go(0), -1);
        is("6 period", x.count(2), 99);
        LeaseLedger y = new LeaseLedger();
        is("6 without leases", y.go(12), 12);
    }

    private static void p6GoEndsPaid() {
        // 1100/1.1 = 1000; (1000 + 1100)/1.1 = 1909.09; interest 190.9 -> 191.
        LeaseLedger x = begun("lease a 0 2 100000;pay a 1 2 1100;fee a 7;");
        is("6 owed", x.amount(0, 0), 1909 + 191 - 1100);
        is("6 used", x.amount(0, 1), 1916 - 958);
        is("6 cash", x.account(0), -1107);
        is("6 entry 0 used", x.entry(1, 12), 1916);
        is("6 entry 0 owed", x.entry(1, 11), -1909);
        is("6 entry 0 cash", x.entry(1, 10), -7);
        x.go(1);
        is("6 nothing left", x.amount(0, 0), 0);
        is("6 all written off", x.account(4), 1916);
        is("6 ended", Check.lease(x, 0, 3), 2);
        // 16/1.19 = 13.445 -> 13; interest 2.47 -> 2, and 1 that DUE is above 15.
        LeaseLedger y = begun("lease a 0 2 190000;pay a 1 1 16;");
        is("6 interest and what is above", y.account(3), 3);
        is("6 owed", y.amount(0, 0), 0);
        // 3/1.2 = 2.5 -> 3; interest 0.6 -> 1; 1 is left, the last INTEREST takes it.
        LeaseLedger z = begun("lease a 0 2 200000;pay a 1 1 3;");
        is("6 owed", z.amount(0, 0), 1);
        z.go(1);
        is("6 interest below 0", z.entry(0, 13), -1);
        is("6 all interest", z.moved(0, 1), 0);
        is("6 owed then", z.amount(0, 0), 0);
        is("6 no more entries", z.count(4), 3);
        z.go(1);
        is("6 ended ones stay", z.count(4), 3);
    }

    private static void p6GoEarly() {
        // 0, and 3/1.2 = 2.5 -> 3 owed; 3.6 -> 4 behind the first; 4 and 3 paid: -1.
        LeaseLedger x = begun("lease a 0 2 200000;pay a 2 2 3;early a;");
        is("6 early began", x.moved(0, 0), 3);
        is("6 early owed", x.amount(0, 0), 4);
        is("6 early interest", x.account(3), 1);
        x.go(1);
        is("6 early last interest", x.entry(0, 13), -1);
        is("6 early owed then", x.amount(0, 0), 0);
        is("6 early used then", x.amount(0, 1), 0);
        // 1000 and 1000/1.1 = 909; 909 is left, 91 more.
        LeaseLedger y = begun("lease a 0 2 100000;pay a 1 2 1000;early a;");
        is("6 early", y.moved(0, 0), 1909);
        is("6 early owed", y.amount(0, 0), 1000);
        is("6 early interest", y.account(3), 91);
        is("6 early cash", y.account(0), -1000);
        // Owed is less by DUE, 0 at least: a part of 1 of 1000 takes 1000*1/1000 = 1 of 1001 owed, DUE 1001 stays 999.
        LeaseLedger z = begun("lease a 0 3 0;pay a 1 1 5;pay a 2 2 1001;early a;");
        z.part(0, 1);
        is("6 early owed", z.amount(0, 0), 1000);
        is("6 early due", z.due(0, 2), 999);
        z.go(1);
        is("6 early rest", z.amount(0, 0), 1);
        z.go(1);
        is("6 the rest goes at the end", z.entry(0, 13), -1);
    }

    private static void p6GoIndexed() {
        // Base 1250; in period 2 it is 1500: 1001 * 1500 / 1250 = 1201.2.
        LeaseLedger x = Check.told("index 1 1250;index 2 1500;lease t 1 4 0;pay t 1 4 1001;tied t;lease u 1 4 0;pay u 1 4 1001;");
        x.go(2);
        is("6 base", Check.lease(x, 0, 5), 1250);
        is("6 indexed by base", Check.lease(x, 0, 8), 1250);
        is("6 entries", x.count(4), 4);
        is("6 due as told", x.due(0, 2), 1001);
        x.go(1);
        is("6 due gone stays", x.due(0, 1), 1001);
        is("6 due indexed, this one too", x.due(0, 2), 1201);
        is("6 due indexed", x.due(0, 4), 1201);
        is("6 indexed", Check.lease(x, 0, 8), 1500);
        is("6 base stays", Check.lease(x, 0, 5), 1250);
        is("6 owed", x.amount(0, 0), 2402);
        is("6 entries: measured, paid; the other paid", x.count(4), 7);
        is("6 measured", x.entry(2, 0), 2);
        is("6 owed more", x.entry(2, 11), -600);
        is("6 used more", x.entry(2, 12), 600);
        is("6 not tied", x.due(1, 2), 1001);
        is("6 indexed of one that isn't tied", Check.lease(x, 1, 8), 1250);
        x.go(1);
        is("6 not again", x.count(4), 9);
        // Back to the base: by SETTING, not by what was rounded.
        x.become(1250);
        x.go(1);
        is("6 due is told again", x.due(0, 4), 1001);
        is("6 ended", Check.lease(x, 0, 3), 2);
    }

    private static void p7Lease() {
        LeaseLedger x = Check.told("lease a 1 3 77;fee a 9;");
        long[] ahead = {1, 3, 77, 0, 3, 0, 9, 0, 0};
        for (int w = 0; w < 9; w++) {
            is("7 not begun " + w, Check.lease(x, 0, w), ahead[w]);
        }
        is("7 what 9", Check.lease(x, 0, 9), Check.NO_SUCH);
        is("7 what -1", Check.lease(x, 0, -1), Check.NO_SUCH);
        is("7 lease 1", Check.lease(x, 1, 0), Check.OUT);
        is("7 lease -1", Check.lease(x, -1, 0), Check.OUT);
        is("7 lease ahead of what", Check.lease(x, 1, 9), Check.OUT);
        x.become(700);
        x.go(2);
        long[] begun = {1, 3, 77, 1, 2, 700, 9, 0, 700};
        for (int w = 0; w < 9; w++) {
            is("7 begun " + w, Check.lease(x, 0, w), begun[w]);
        }
        x.go(2);
        long[] ended = {1, 3, 77, 2, 0, 700, 9, 0, 700};
        for (int w = 0; w < 9; w++) {
            is("7 ended " + w, Check.lease(x, 0, w), ended[w]);
        }
    }

    private static void p7Found() {
        LeaseLedger x = Check.told("lease c 0 1 5;pay c 1 1 1000;fair c 990;");
        // 1000000000/989.5 = 1010611.4: by 10611 it is 990 still.
        is("7 found", Check.lease(x, 0, 2), 10611);
        is("7 whether", Check.lease(x, 0, 7), 1);
        LeaseLedger y = Check.told("lease c 0 1 5;pay c 1 1 1000;fair c 1001;");
        is("7 none: as told", Check.lease(y, 0, 2), 5);
        is("7 whether", Check.lease(y, 0, 7), 0);
        LeaseLedger z = Check.told("lease c 0 1 5;fair c 1000;pay c 1 1 1000;");
        // Above 999.5: 1000000000/999.5 = 1000500.25.
        is("7 pays that come behind count", Check.lease(z, 0, 2), 500);
        // By 1 of a million 1099989 is less by one already: the greatest is 0, and it is found.
        LeaseLedger o = Check.told("lease c 0 1 5;" + times(11, "pay c 1 1 99999;") + "fair c 1099989;");
        is("7 found 0", Check.lease(o, 0, 2), 0);
        is("7 whether", Check.lease(o, 0, 7), 1);
        LeaseLedger e = Check.told("lease c 0 1 5;pay c 1 1 1000;early c;fair c 1000;");
        is("7 the greatest of all", Check.lease(e, 0, 2), 200000);
        is("7 whether", Check.lease(e, 0, 7), 1);
    }

    private static void p8Amount() {
        LeaseLedger x = Check.told(PLAIN);
        is("8 owed ahead", x.amount(0, 0), 0);
        is("8 used ahead", x.amount(0, 1), 0);
        x.go(1);
        is("8 owed", x.amount(0, 0), 1000);
        is("8 used", x.amount(0, 1), 955);
        is("8 what 2", x.amount(0, 2), -1);
        is("8 what -1", x.amount(0, -1), -1);
        is("8 lease 1", x.amount(1, 0), -1);
        is("8 lease -1", x.amount(-1, 0), -1);
    }

    private static void p9Due() {
        LeaseLedger x = Check.told("lease a 0 3 0;pay a 1 2 10;pay a 2 48 5;");
        is("9 one", x.due(0, 1), 10);
        is("9 together", x.due(0, 2), 15);
        is("9 three", x.due(0, 3), 5);
        is("9 beyond TERM", x.due(0, 4), -1);
        is("9 zero", x.due(0, 0), -1);
        is("9 lease 1", x.due(1, 1), -1);
        is("9 lease -1", x.due(-1, 1), -1);
        x.go(1);
        is("9 what has gone by stays", x.due(0, 1), 10);
        LeaseLedger y = Check.told("lease a 0 3 0;pay a 1 1 10;");
        is("9 beyond what was told", y.due(0, 2), 0);
    }

    private static void p10Worth() {
        LeaseLedger x = Check.told("lease a 0 3 0;pay a 1 3 3;lease b 0 3 0;pay b 1 3 3;early b;");
        // End: 3/2 = 1.5 -> 2; (2+3)/2 = 2.5 -> 3; (3+3)/2 = 3.
        is("10 last", x.worth(0, 3, 1000000), 2);
        is("10 two", x.worth(0, 2, 1000000), 3);
        is("10 all", x.worth(0, 1, 1000000), 3);
        // Early: 3; 3 + 1.5 -> 5; 3 + 2.5 -> 6.
        is("10 early last", x.worth(1, 3, 1000000), 3);
        is("10 early two", x.worth(1, 2, 1000000), 5);
        is("10 early all", x.worth(1, 1, 1000000), 6);
        is("10 rate 0", x.worth(0, 1, 0), 9);
        is("10 rate -1", x.worth(0, 1, -1), -1);
        is("10 rate 1000001", x.worth(0, 1, 1000001), -1);
        is("10 k 0", x.worth(0, 0, 5), -1);
        is("10 k 4", x.worth(0, 4, 5), -1);
        is("10 lease 2", x.worth(2, 1, 5), -1);
        is("10 lease -1", x.worth(-1, 1, 5), -1);
        x.go(1);
        is("10 what has gone by counts", x.worth(0, 1, 0), 9);
    }

    private static void p11Index() {
        LeaseLedger x = Check.told("index 3 900;index 7 1100;");
        is("11 ahead of all", x.index(0), 1000);
        is("11 ahead", x.index(2), 1000);
        is("11 from then on", x.index(3), 900);
        is("11 still", x.index(6), 900);
        is("11 next", x.index(7), 1100);
        is("11 to the end", x.index(99), 1100);
        is("11 period 100", x.index(100), -1);
        is("11 period -1", x.index(-1), -1);
        LeaseLedger y = Check.told("index 0 500;");
        is("11 from 0 on", y.index(0), 500);
    }

    private static void p12Account() {
        LeaseLedger x = begun("lease a 0 2 100000;pay a 1 2 1100;lease b 0 1 0;pay b 1 1 40;fee b 3;");
        is("12 cash", x.account(0), -1143);
        is("12 owed", x.account(1), -1000);
        is("12 used", x.account(2), 955);
        is("12 interest", x.account(3), 191);
        is("12 written off", x.account(4), 954 + 43);
        is("12 gain", x.account(5), 0);
        is("12 six", x.account(6), NO);
        is("12 below 0", x.account(-1), NO);
    }

    private static void p13Entry() {
        LeaseLedger x = Check.told("lease a 2 3 0;pay a 1 3 10;lease b 3 3 0;");
        is("13 none", x.entry(0, 0), NO);
        x.go(4);
        // Period 2: a begins, pays; period 3: a pays, b begins, b pays.
        long[][] due = {{1, 3, 1}, {0, 3, 1}, {1, 3, 0}, {1, 2, 0}, {0, 2, 0}};
        for (int k = 0; k < due.length; k++) {
            for (int w = 0; w < 3; w++) {
                is("13 entry(" + k + "," + w + ")", x.entry(k, w), due[k][w]);
            }
        }
        is("13 no more", x.entry(5, 0), NO);
        is("13 below 0", x.entry(-1, 0), NO);
        is("13 what 3", x.entry(0, 3), NO);
        is("13 what 9", x.entry(0, 9), NO);
        is("13 what 16", x.entry(0, 16), NO);
        is("13 what -1", x.entry(0, -1), NO);
        is("13 amount", x.entry(2, 10), -10);
        for (int i = 0; i < 39; i++) {
            x.rate(0, i);
        }
        is("13 period of a deed", x.entry(0, 1), 4);
        is("13 the fortieth", x.entry(39, 0), 1);
        is("13 forty are kept", x.entry(40, 0), NO);
        for (int k = 0; k < 40; k++) {
            long together = 0;
            for (int a = 10; a < 16; a++) {
                together += x.entry(k, a);
            }
            is("13 an entry is 0 together", together, 0);
        }
    }

    private static void p14Rate() {
        LeaseLedger x = Check.told(PLAIN);
        is("14 not begun", x.rate(0, 5), NO);
        x.go(1);
        is("14 less", x.rate(0, 200000), -83);
        is("14 rate", Check.lease(x, 0, 2), 200000);
        is("14 owed", x.amount(0, 0), 917);
        is("14 used", x.amount(0, 1), 872);
        is("14 sort", x.entry(0, 0), 2);
        is("14 owed of it", x.entry(0, 11), 83);
        is("14 more", x.rate(0, 0), 183);
        is("14 nothing changes", x.rate(0, 0), 0);
        is("14 an entry nevertheless", x.count(4), 5);
        is("14 rate -1", x.rate(0, -1), NO);
        is("14 rate 200001", x.rate(0, 200001), NO);
        is("14 lease 1", x.rate(1, 0), NO);
        is("14 lease -1", x.rate(-1, 0), NO);
        is("14 used is 0 at least", x.down(0, x.amount(0, 1) - 55), 55);
        x.rate(0, 200000);
        is("14 used", x.amount(0, 1), 0);
        is("14 owed less", x.entry(0, 11), 183);
        is("14 used less", x.entry(0, 12), -55);
        is("14 gain", x.entry(0, 15), -128);
        x.go(1);
        is("14 ended", x.rate(0, 0), NO);
        LeaseLedger f = begun("lease c 0 3 5;pay c 1 3 1000;fair c 2990;");
        is("14 found", Check.lease(f, 0, 7), 1);
        f.rate(0, 7);
        is("14 the rate is another one", Check.lease(f, 0, 2), 7);
    }

    private static void p15Extend() {
        LeaseLedger x = Check.told(PLAIN);
        is("15 not begun", x.extend(0, 1), NO);
        x.go(1);
        is("15 n 0", x.extend(0, 0), NO);
        is("15 n 25", x.extend(0, 25), NO);
        is("15 lease 1", x.extend(1, 1), NO);
        is("15 lease -1", x.extend(-1, 1), NO);
        is("15 one more", x.extend(0, 1), 909);
        is("15 term", Check.lease(x, 0, 1), 3);
        is("15 due", x.due(0, 3), 1100);
        is("15 24 more", x.extend(0, 24) > 0 ? 1 : 0, 1);
        is("15 24 more", x.extend(0, 24) > 0 ? 1 : 0, 1);
        is("15 term", Check.lease(x, 0, 1), 51);
        is("15 above 72", x.extend(0, 22), NO);
        is("15 up to 72", x.extend(0, 21) > 0 ? 1 : 0, 1);
        is("15 term", Check.lease(x, 0, 1), 72);
        is("15 no more", x.extend(0, 1), NO);
        is("15 the last", x.due(0, 72), 1100);
        // What pays told beyond TERM isn't its own: the last own one's DUE goes on.
        LeaseLedger y = begun("lease a 0 2 0;pay a 1 2 7;pay a 3 5 900;");
        is("15 as the last own one", y.extend(0, 2), 14);
        is("15 due", y.due(0, 3), 7);
        // SETTING goes on likewise: 1500/1000 of 1001, then of the base again.
        LeaseLedger t = begun(TIED);
        t.become(1500);
        t.go(1);
        t.extend(0, 1);
        is("15 due indexed", t.due(0, 5), 1501);
        t.become(1000);
        t.go(1);
        is("15 setting", t.due(0, 5), 1001);
        t.end(0);
        is("15 ended", t.extend(0, 1), NO);
    }

    private static void p16Take() {
        LeaseLedger x = Check.told(PLAIN);
        is("16 not begun", x.take(0), NO);
        x.go(1);
        is("16 option 1", x.take(1), NO);
        is("16 option -1", x.take(-1), NO);
        is("16 taken", x.take(0), 789);
        is("16 term", Check.lease(x, 0, 1), 4);
        is("16 due", x.due(0, 4), 500);
        is("16 sort", x.entry(0, 0), 2);
        is("16 once", x.take(0), NO);
        // Tied: all that is left is indexed by the period's index, and the option's too.
        LeaseLedger t = begun(TIED);
        t.become(1500);
        is("16 tied", t.take(0), 3 * 1501 + 2 * 150 - 3 * 1001);
        is("16 due", t.due(0, 2), 1501);
        is("16 due gone", t.due(0, 1), 1001);
        is("16 due of it", t.due(0, 6), 150);
        is("16 indexed last", Check.lease(t, 0, 8), 1500);
        is("16 one entry", t.count(4), 3);
        t.go(1);
        is("16 not indexed again", t.count(4), 4);
        t.become(1000);
        t.go(1);
        is("16 setting of it", t.due(0, 6), 100);
        LeaseLedger y = begun("lease a 0 48 0;option a 24 1;option a 1 1;");
        is("16 up to 72", y.take(0), 24);
        is("16 above 72", y.take(1), NO);
        LeaseLedger z = begun("lease a 0 1 0;option a 1 1;lease b 0 3 0;option b 1 1;");
        is("16 ended", z.take(0), NO);
        is("16 of the other one", z.take(1), 1);
        is("16 its term", Check.lease(z, 1, 1), 4);
        z.undo();
        z.end(1);
        is("16 ended by call", z.take(1), NO);
    }

    private static void p17Part() {
        LeaseLedger x = Check.told(PLAIN);
        is("17 not begun", x.part(0, 500), NO);
        x.go(1);
        is("17 p 0", x.part(0, 0), NO);
        is("17 p 1000", x.part(0, 1000), NO);
        is("17 lease 1", x.part(1, 1), NO);
        // 333 of 1000; 955 * 0.333 = 318.015; 1100 * 0.667 = 733.7.
        is("17 gain", x.part(0, 333), 15);
        is("17 owed", x.amount(0, 0), 667);
        is("17 used", x.amount(0, 1), 637);
        is("17 due", x.due(0, 2), 733);
        is("17 due gone", x.due(0, 1), 1100);
        is("17 sort", x.entry(0, 0), 3);
        is("17 owed of it", x.entry(0, 11), 333);
        is("17 used of it", x.entry(0, 12), -318);
        is("17 gain of it", x.entry(0, 15), -15);
        is("17 no remeasuring", x.count(4), 3);
        x.go(1);
        is("17 ended", x.part(0, 1), NO);
        // A fee makes USED more than OWED: a loss.
        LeaseLedger y = begun("lease a 0 2 0;pay a 1 2 100;fee a 100;");
        is("17 loss", y.part(0, 500), 50 - 75);
        is("17 loss on the account", y.account(5), 25);
        is("17 the greatest", y.part(0, 999), 49 - 74);
        is("17 due", y.due(0, 2), 0);
        // SETTING is less too: 1001/2 -> 500, by 1500 of 1000 it is 750.
        LeaseLedger t = begun(TIED);
        t.part(0, 500);
        is("17 due", t.due(0, 2), 500);
        t.become(1500);
        t.go(1);
        is("17 setting", t.due(0, 2), 750);
    }

    private static void p18End() {
        LeaseLedger x = Check.told(PLAIN);
        is("18 not begun", x.end(0), NO);
        x.go(1);
        is("18 lease 1", x.end(1), NO);
        is("18 lease -1", x.end(-1), NO);
        is("18 gain", x.end(0), 45);
        is("18 owed", x.amount(0, 0), 0);
        is("18 used", x.amount(0, 1), 0);
        is("18 stage", Check.lease(x, 0, 3), 2);
        is("18 left", Check.lease(x, 0, 4), 0);
        is("18 sort", x.entry(0, 0), 4);
        is("18 account", x.account(5), -45);
        is("18 owed account", x.account(1), 0);
        is("18 used account", x.account(2), 0);
        is("18 ended", x.end(0), NO);
        x.go(1);
        is("18 nothing goes on", x.count(4), 3);
        LeaseLedger y = begun("lease a 0 2 0;pay a 1 2 100;fee a 100;");
        is("18 loss", y.end(0), 100 - 150);
        is("18 loss on the account", y.account(5), 50);
    }

    private static void p19Down() {
        LeaseLedger x = Check.told(PLAIN);
        is("19 not begun", x.down(0, 1), NO);
        x.go(1);
        is("19 v 0", x.down(0, 0), NO);
        is("19 v -1", x.down(0, -1), NO);
        is("19 more than used", x.down(0, 956), NO);
        is("19 far more", x.down(0, Long.MAX_VALUE), NO);
        is("19 lease 1", x.down(1, 1), NO);
        is("19 lease -1", x.down(-1, 1), NO);
        is("19 one", x.down(0, 1), 954);
        is("19 all", x.down(0, 954), 0);
        is("19 loss", x.account(5), 955);
        is("19 used account", x.account(2), 0);
        is("19 sort", x.entry(0, 0), 5);
        is("19 of it", x.entry(0, 15), 954);
        is("19 none left", x.down(0, 1), NO);
        is("19 owed stays", x.amount(0, 0), 1000);
        x.go(1);
        is("19 ended", x.down(0, 1), NO);
    }

    private static void p20PutOff() {
        LeaseLedger x = Check.told("lease a 0 4 100000;pay a 1 4 1000;");
        is("20 not begun", x.putOff(0, 1, 2), NO);
        x.go(1);
        is("20 gone", x.putOff(0, 1, 2), NO);
        is("20 the same", x.putOff(0, 2, 2), NO);
        is("20 ahead", x.putOff(0, 3, 2), NO);
        is("20 beyond", x.putOff(0, 2, 5), NO);
        is("20 k 0", x.putOff(0, 0, 2), NO);
        is("20 far off", x.putOff(0, -5, Integer.MAX_VALUE), NO);
        is("20 lease 1", x.putOff(1, 2, 3), NO);
        is("20 lease -1", x.putOff(-1, 2, 3), NO);
        // Owed 3169 + 317 - 1000; then 2000/1.1 -> 1818, 2818/1.1 -> 2562, 2562/1.1 -> 2329.
        is("20 owed", x.amount(0, 0), 2486);
        is("20 put off", x.putOff(0, 2, 4), 2329 - 2486);
        is("20 from", x.due(0, 2), 0);
        is("20 between", x.due(0, 3), 1000);
        is("20 to", x.due(0, 4), 2000);
        is("20 sort", x.entry(0, 0), 2);
        is("20 owed", x.amount(0, 0), 2329);
        LeaseLedger t = begun(TIED);
        t.putOff(0, 2, 3);
        t.become(2000);
        t.go(1);
        is("20 setting from", t.due(0, 2), 0);
        is("20 setting to", t.due(0, 3), 4004);
        t.end(0);
        is("20 ended", t.putOff(0, 3, 4), NO);
    }

    private static void p21Become() {
        LeaseLedger x = Check.told("index 5 800;");
        is("21 499", x.become(499), -1);
        is("21 2001", x.become(2001), -1);
        is("21 500", x.become(500), 1000);
        is("21 2000", x.become(2000), 500);
        is("21 now", x.index(0), 2000);
        is("21 up to the told one", x.index(4), 2000);
        is("21 the told one", x.index(5), 800);
        x.go(3);
        is("21 later", x.become(900), 2000);
        is("21 ahead stays", x.index(2), 2000);
        is("21 from now on", x.index(3), 900);
        is("21 till", x.index(5), 800);
        x.go(2);
        is("21 in the told one itself", x.become(700), 800);
        is("21 to the end", x.index(99), 700);
        is("21 no entry", x.count(4), 0);
        is("21 the same", x.become(700), 700);
        is("21 can be undone", x.count(6), 10);
        for (int i = 0; i < 7; i++) {
            x.go(12);
        }
        x.go(10);
        is("21 in period 99", x.become(600), 700);
        is("21 index 99", x.index(99), 600);
        is("21 index 98", x.index(98), 700);
        x.undo();
        is("21 undone", x.index(99), 700);
    }

    private static void p22Plan() {
        LeaseLedger x = Check.told(PLAIN);
        long[][] due = {{0, 0, 0, 0}, {1000, 955, 1100, 191}, {0, 0, 2200, 291}};
        for (int n = 0; n < 3; n++) {
            for (int w = 0; w < 4; w++) {
                is("22 plan " + n + " " + w, x.plan(0, n, w), due[n][w]);
            }
        }
        is("22 as it goes nothing changes", x.count(4), 0);
        is("22 period", x.count(2), 0);
        x.go(1);
        is("22 only in these", x.plan(0, 1, 2), 1100);
        is("22 interest in these", x.plan(0, 1, 3), 100);
        is("22 none", x.plan(0, 0, 0), 1000);
        is("22 none paid", x.plan(0, 0, 2), 0);
        is("22 n 73", x.plan(0, 73, 0), -1);
        is("22 n -1", x.plan(0, -1, 0), -1);
        is("22 what 4", x.plan(0, 1, 4), -1);
        is("22 what -1", x.plan(0, 1, -1), -1);
        is("22 lease 1", x.plan(1, 1, 0), -1);
        is("22 lease -1", x.plan(-1, 1, 0), -1);
        LeaseLedger t = Check.told("lease t 0 4 0;pay t 1 4 1001;tied t;index 2 1500;");
        is("22 by the index that is told", t.plan(0, 3, 0), 1501);
        is("22 without fee", begun("lease a 1 2 0;pay a 1 2 5;fee a 100;").plan(0, 2, 2), 10);
        LeaseLedger y = new LeaseLedger();
        Check.tell(y, PLAIN);
        for (int i = 0; i < 8; i++) {
            y.go(12);
        }
        is("22 no more than come", y.plan(0, 72, 0), 0);
        is("22 period stays", y.count(2), 96);
    }

    private static void p23All() {
        LeaseLedger x = Check.told("lease a 0 3 0;pay a 1 3 10;lease b 2 2 0;pay b 1 2 100;");
        long[] due = {0, 20, 10, 100, 0};
        for (int n = 0; n < due.length; n++) {
            is("23 all " + n, x.all(n), due[n]);
        }
        is("23 72", x.all(72), 0);
        is("23 73", x.all(73), -1);
        is("23 -1", x.all(-1), -1);
        x.go(3);
        is("23 now", x.all(0), 100);
    }

    private static void p24Soon() {
        LeaseLedger x = Check.told("lease a 0 20 0;pay a 1 20 10;lease b 2 20 0;pay b 1 20 7;");
        is("24 not begun", x.soon(0, 0), -80);
        is("24 then", x.soon(0, 1), 80);
        x.go(1);
        is("24 less in twelve", x.soon(0, 0), 120);
        is("24 then", x.soon(0, 1), 70);
        is("24 the other", x.soon(1, 1), 7 * 9);
        is("24 what 2", x.soon(0, 2), -1);
        is("24 what -1", x.soon(0, -1), -1);
        is("24 lease 2", x.soon(2, 0), -1);
        is("24 lease -1", x.soon(-1, 0), -1);
    }

    private static void p25Sum() {
        LeaseLedger x = Check.told("lease a 0 24 0;pay a 1 24 10;lease b 0 30 0;pay b 1 30 1;fee b 5;");
        is("25 none", x.sum(0, 0), 0);
        x.go(12);
        is("25 fees", x.sum(0, 0), -5);
        is("25 owed", x.sum(1, 0), -270);
        is("25 paid", x.sum(0, 1), -132);
        is("25 none of these", x.sum(1, 2), 0);
        x.go(12);
        // 50 entries: the first ten are no longer kept, 40 payments are.
        is("25 kept only", x.sum(0, 0), 0);
        is("25 kept only", x.sum(0, 1), -220);
        is("25 account 6", x.sum(6, 0), NO);
        is("25 account -1", x.sum(-1, 0), NO);
        is("25 sort 6", x.sum(0, 6), NO);
        is("25 sort -1", x.sum(0, -1), NO);
        x.down(1, 1);
        is("25 gain", x.sum(5, 5), 1);
    }

    private static void p26Moved() {
        LeaseLedger x = Check.told(PLAIN);
        for (int w = 0; w < 5; w++) {
            is("26 ahead " + w, x.moved(0, w), 0);
        }
        x.go(1);
        is("26 began", x.moved(0, 0), 1909);
        is("26 interest", x.moved(0, 1), 191);
        is("26 paid", x.moved(0, 2), 1100);
        x.rate(0, 0);
        x.rate(0, 200000);
        is("26 measured", x.moved(0, 3), 100 - 183);
        x.part(0, 500);
        is("26 part", x.moved(0, 4), 458);
        x.end(0);
        is("26 end", x.moved(0, 4), 917);
        is("26 what 5", x.moved(0, 5), NO);
        is("26 what -1", x.moved(0, -1), NO);
        is("26 lease 1", x.moved(1, 0), NO);
        is("26 lease -1", x.moved(-1, 0), NO);
        LeaseLedger y = begun("lease a 0 2 0;pay a 1 2 5;fee a 9;");
        is("26 without fee", y.moved(0, 2), 5);
    }

    private static void p27Choose() {
        LeaseLedger x = Check.told("lease a 0 3 0;pay a 1 3 10;option a 2 10;option a 2 4;lease b 0 9 0;option b 1 0;option a 1 4;");
        is("27 not begun", x.choose(0), -2);
        x.go(1);
        // 20/2; 8 more by 2: 28/4 = 7; 4 more by 1: 24/3 = 8; both 32/5 = 6.4.
        is("27 both", x.choose(0), 2 | 8);
        // Owed 0 by 8, by 9 with the option: the same share, the least bits.
        is("27 none is as good", x.choose(1), 0);
        is("27 lease 2", x.choose(2), -1);
        is("27 lease -1", x.choose(-1), -1);
        x.take(1);
        is("27 what is taken doesn't count", x.choose(0), 8);
        x.end(0);
        is("27 ended", x.choose(0), -2);
        LeaseLedger y = begun("lease a 0 48 0;pay a 1 48 9;option a 24 5;option a 20 4;");
        // 423/47; 120 by 24 more, 80 by 20 more: 543/71 = 7.648, 503/67 = 7.507; both would be 92.
        is("27 TERM", y.choose(0), 2);
        LeaseLedger t = begun("lease t 0 3 0;pay t 1 3 10;tied t;option t 1 30;");
        t.become(500);
        // Nothing taken, nothing indexed: 20/2; taken, all is indexed: (5 + 5 + 15)/3.
        is("27 tied", t.choose(0), 1);
        is("27 nothing is taken", Check.lease(t, 0, 1), 3);
    }

    private static void p28Life() {
        LeaseLedger x = Check.told("lease a 2 3 0;pay a 1 1 6;pay a 3 3 2;lease b 0 2 0;");
        // 6 in 2, 2 in 4: 20/8.
        is("28 upper", x.life(0, false), 5);
        is("28 lower", x.life(0, true), 2);
        is("28 nothing is due", x.life(1, false), -2);
        is("28 lease 2", x.life(2, false), -1);
        is("28 lease -1", x.life(-1, true), -1);
        x.go(1);
        is("28 nearer", x.life(0, false), 3);
        is("28 nearer", x.life(0, true), 2);
        x.go(2);
        is("28 left only: 2 in 1", x.life(0, false), 1);
        is("28 left only", x.life(0, true), 1);
        is("28 ended", x.life(1, false), -2);
        x.go(1);
        is("28 now", x.life(0, false), 0);
        is("28 now", x.life(0, true), 1);
        x.go(1);
        is("28 ended", x.life(0, true), -2);
        LeaseLedger y = begun(PLAIN);
        y.end(0);
        is("28 ended by call", y.life(0, false), -2);
    }

    private static void p29Peak() {
        LeaseLedger x = Check.told("lease a 1 3 0;pay a 1 3 5;lease b 2 3 0;pay b 1 3 4;fee b 90;");
        is("29 when", x.peak(0), 2);
        is("29 how much", x.peak(1), 9);
        is("29 what 2", x.peak(2), -1);
        is("29 what -1", x.peak(-1), -1);
        x.go(4);
        is("29 next", x.peak(0), 0);
        is("29 next", x.peak(1), 4);
        x.go(1);
        is("29 nothing", x.peak(0), -2);
        is("29 nothing", x.peak(1), -2);
        is("29 what goes ahead", x.peak(2), -1);
    }

    private static void p30PartFor() {
        LeaseLedger x = Check.told(PLAIN);
        is("30 not begun", x.partFor(0, 0), -2);
        x.go(1);
        // p less 955p/1000 downwards: from the first on 1, for 0.955 is 0.
        is("30 below", x.partFor(0, -5), 1);
        is("30 one", x.partFor(0, 1), 1);
        is("30 ten", x.partFor(0, 10), 201);
        is("30 most", x.partFor(0, 45), 978);
        is("30 by none", x.partFor(0, 46), -2);
        is("30 far", x.partFor(0, Long.MAX_VALUE), -2);
        x.down(0, 955);
        is("30 the greatest part", x.partFor(0, 999), 999);
        is("30 all is no part", x.partFor(0, 1000), -2);
        is("30 lease 1", x.partFor(1, 0), -1);
        is("30 lease -1", x.partFor(-1, 0), -1);
        x.end(0);
        is("30 ended", x.partFor(0, -9), -2);
    }

    private static void p31Latest() {
        LeaseLedger x = Check.told("lease a 1 30 0;lease b 2 30 0;");
        is("31 none", x.latest(0, 0), -2);
        x.go(3);
        is("31 began", x.latest(0, 0), 1);
        is("31 began", x.latest(1, 0), 2);
        is("31 paid", x.latest(0, 1), 2);
        is("31 none", x.latest(0, 2), -2);
        x.rate(1, 1);
        is("31 measured", x.latest(1, 2), 3);
        is("31 the other wasn't", x.latest(0, 2), -2);
        is("31 sort 6", x.latest(0, 6), -1);
        is("31 sort -1", x.latest(0, -1), -1);
        is("31 lease 2", x.latest(2, 0), -1);
        is("31 lease -1", x.latest(-1, 0), -1);
        x.go(12);
        x.go(6);
        is("31 no longer kept", x.latest(0, 0), -2);
    }

    private static void p32Half() {
        LeaseLedger x = Check.told("lease a 0 5 0;pay a 1 5 10;lease b 3 5 0;lease c 0 3 0;");
        is("32 not begun", x.half(0), -1);
        x.go(1);
        is("32 half", x.half(0), 2);
        is("32 not begun", x.half(1), -1);
        is("32 it is 0", x.half(2), 0);
        is("32 lease 3", x.half(3), -1);
        is("32 lease -1", x.half(-1), -1);
        x.go(1);
        is("32 thirty: not above fifteen", x.half(0), 2);
        x.end(0);
        is("32 ended", x.half(0), 0);
        // An odd amount: 3 is owed, 2 is above half.
        LeaseLedger y = begun("lease a 0 4 0;pay a 1 4 1;");
        is("32 odd", y.half(0), 2);
    }

    private static void p33Cash() {
        LeaseLedger x = Check.told("lease a 1 3 0;pay a 1 3 5;lease b 2 3 0;pay b 1 3 4;fee b 90;");
        is("33 all", x.cash(0, 71), 27);
        is("33 first", x.cash(0, 0), 0);
        is("33 some", x.cash(1, 2), 14);
        is("33 one", x.cash(2, 2), 9);
        is("33 none", x.cash(5, 71), 0);
        is("33 i above j", x.cash(2, 1), -1);
        is("33 72", x.cash(0, 72), -1);
        is("33 72", x.cash(72, 72), -1);
        is("33 -1", x.cash(-1, 5), -1);
        is("33 far", x.cash(Integer.MIN_VALUE, Integer.MAX_VALUE), -1);
        x.go(2);
        is("33 from now on", x.cash(0, 0), 9);
    }

    private static void p34IfIndex() {
        LeaseLedger x = Check.told(TIED + "lease u 0 4 0;pay u 1 4 1001;");
        is("34 not begun", x.ifIndex(0, 1000), -2);
        is("34 499", x.ifIndex(0, 499), -1);
        x.go(1);
        is("34 1500", x.ifIndex(0, 1500), 3 * 1501);
        is("34 as it is", x.ifIndex(0, 1000), 3003);
        is("34 2000", x.ifIndex(0, 2000), 6006);
        is("34 not tied", x.ifIndex(1, 1500), 3003);
        is("34 499", x.ifIndex(0, 499), -1);
        is("34 2001", x.ifIndex(0, 2001), -1);
        is("34 lease 2", x.ifIndex(2, 1000), -1);
        is("34 lease -1", x.ifIndex(-1, 1000), -1);
        is("34 nothing changes", x.due(0, 2), 1001);
        is("34 nothing changes", x.index(1), 1000);
        x.end(0);
        is("34 ended", x.ifIndex(0, 1000), -2);
        is("34 no such index goes ahead", x.ifIndex(0, 499), -1);
    }

    private static void p35IfTaken() {
        LeaseLedger x = Check.told(PLAIN);
        is("35 not begun", x.ifTaken(0), NO);
        x.go(1);
        is("35 more", x.ifTaken(0), 789);
        is("35 not taken", Check.lease(x, 0, 1), 2);
        is("35 again", x.ifTaken(0), 789);
        is("35 option 1", x.ifTaken(1), NO);
        is("35 option -1", x.ifTaken(-1), NO);
        x.take(0);
        is("35 taken", x.ifTaken(0), NO);
        LeaseLedger t = begun(TIED);
        t.become(1500);
        is("35 tied", t.ifTaken(0), 3 * 1501 + 2 * 150 - 3 * 1001);
        is("35 due stays", t.due(0, 2), 1001);
        LeaseLedger y = begun("lease a 0 48 0;option a 24 1;option a 1 1;");
        y.take(0);
        is("35 above 72", y.ifTaken(1), NO);
        y.end(0);
        is("35 ended", y.ifTaken(1), NO);
    }

    private static void p36Yields() {
        LeaseLedger x = Check.told("lease c 0 2 5;pay c 1 2 1000;");
        is("36 990 of 1000", x.yields(0, 2, 990), 10611);
        is("36 by none", x.yields(0, 2, 1001), -2);
        // 1999.5 at least: 2000000000/1999.5 = 1000250.06.
        is("36 all of it", x.yields(0, 1, 2000), 250);
        is("36 greatest", x.yields(0, 1, 1), 200000);
        is("36 w 0", x.yields(0, 1, 0), -1);
        is("36 w -1", x.yields(0, 1, -1), -1);
        is("36 w 1000000000", x.yields(0, 1, 1000000000), -1);
        is("36 w 999999999", x.yields(0, 1, 999999999), -2);
        is("36 k 0", x.yields(0, 0, 1), -1);
        is("36 k 3", x.yields(0, 3, 1), -1);
        is("36 lease 1", x.yields(1, 1, 1), -1);
        is("36 lease -1", x.yields(-1, 1, 1), -1);
        x.go(2);
        is("36 of one that has ended, too", x.yields(0, 2, 990), 10611);
    }

    private static void p37Level() {
        LeaseLedger x = Check.told("lease a 0 2 100000;lease b 0 2 100000;early b;lease c 0 1 0;");
        is("37 1909", x.level(0, 1909), 1100);
        // 1908.5 at least: 1099 is worth 999.09, (999 + 1099)/1.1 = 1907.3.
        is("37 1908", x.level(0, 1908), 1100);
        is("37 1907", x.level(0, 1907), 1099);
        is("37 early", x.level(1, 1909), 1000);
        is("37 most", x.level(2, 9999999), 9999999);
        is("37 none", x.level(2, 10000000), -2);
        is("37 least", x.level(2, 1), 1);
        is("37 w 0", x.level(0, 0), -1);
        is("37 w 1000000000", x.level(0, 1000000000), -1);
        is("37 w 999999999", x.level(0, 999999999), -2);
        is("37 lease 3", x.level(3, 1), -1);
        is("37 lease -1", x.level(-1, 1), -1);
    }

    private static void p38Heaviest() {
        LeaseLedger x = Check.told("lease a 0 3 0;pay a 1 3 5;lease b 0 5 0;pay b 1 5 5;lease c 1 3 0;pay c 2 3 9;");
        is("38 none", x.heaviest(), -2);
        x.go(1);
        is("38 the first of several", x.heaviest(), 0);
        x.go(1);
        is("38 18 by 2", x.heaviest(), 2);
        x.end(2);
        is("38 ended", x.heaviest(), 0);
        x.go(1);
        is("38 ended", x.heaviest(), 1);
        x.go(2);
        is("38 none", x.heaviest(), -2);
        LeaseLedger y = begun("lease a 0 3 0;lease b 0 3 0;");
        is("38 nothing owed", y.heaviest(), 0);
    }

    private static void p39Chance() {
        // Drawn from 1 on by 21: 17 4 12 1 13 20 15 6 0 12 19 20 | 12 6 11 8 15 15 0 9 2 1 20 0.
        String late = "lease t 0 13 0;pay t 13 13 1000;tied t;";
        LeaseLedger x = Check.told(late + "seed 1;");
        // 1007 is the base, 1019 in the end; then 1002 and 979.
        is("39 once", x.chance(1, 1, 0), 1011);
        is("39 twice", x.chance(1, 2, 0), 1011 + 977);
        is("39 greatest", x.chance(1, 2, 1), 1011);
        is("39 least", x.chance(1, 2, 2), 977);
        long[] ends = new long[11];
        for (int n = 1; n <= 10; n++) {
            ends[n] = x.chance(1, n, 0) - (n == 1 ? 0 : x.chance(1, n - 1, 0));
        }
        long most = ends[1];
        long least = ends[1];
        for (int n = 2; n <= 10; n++) {
            most = Math.max(most, ends[n]);
            least = Math.min(least, ends[n]);
            is("39 greatest of " + n, x.chance(1, n, 1), most);
            is("39 least of " + n, x.chance(1, n, 2), least);
        }
        is("39 seed of the text", x.chance(-1, 2, 0), 1988);
        is("39 nothing changes", x.index(0), 1000);
        is("39 nothing changes", x.count(2), 0);
        is("39 the same again", x.chance(1, 2, 0), 1988);
        // In period 6 what was told for it counts: 1505 1501 1491 1493 1502 1512.
        is("39 a later index", Check.told(late + "index 6 1500;").chance(1, 1, 0), 1501);
        // 507 501 503 500 503 513 518 514 504 506 515 525.
        is("39 held to 500", Check.told(late + "index 0 500;").chance(1, 1, 0), 1035);
        // 2000 1994 1996 1987 1990 2000 2000 1996 1986 1988 1997 2000: as the base.
        is("39 held to 2000", Check.told(late + "index 0 2000;").chance(1, 1, 0), 1000);
        is("39 seed -2", x.chance(-2, 1, 0), -1);
        is("39 n 0", x.chance(1, 0, 0), -1);
        is("39 n 11", x.chance(1, 11, 0), -1);
        is("39 what 3", x.chance(1, 1, 3), -1);
        is("39 what -1", x.chance(1, 1, -1), -1);
        is("39 the greatest seed is one", x.chance(2147483647, 10, 2) > 0 ? 1 : 0, 1);
        is("39 seed 0 without one", Check.told(late).chance(-1, 3, 0), x.chance(0, 3, 0));
        for (int i = 0; i < 7; i++) {
            x.go(12);
        }
        x.go(3);
        is("39 up to 99", x.chance(1, 1, 0), 0);
        x.go(1);
        is("39 beyond 99", x.chance(1, 1, 0), -2);
        is("39 no such n goes ahead", x.chance(1, 0, 0), -1);
    }

    private static void p40Undo() {
        LeaseLedger x = Check.told(PLAIN);
        is("40 none", x.undo(), -1);
        x.go(1);
        x.rate(0, 5);
        x.extend(0, 1);
        x.take(0);
        x.part(0, 5);
        x.down(0, 5);
        x.putOff(0, 2, 3);
        x.become(1500);
        x.end(0);
        is("40 all deeds", x.count(6), 9);
        for (int i = 8; i >= 0; i--) {
            is("40 undo", x.undo(), i);
        }
        is("40 none", x.undo(), -1);
        is("40 period", x.count(2), 0);
        is("40 entries", x.count(4), 0);
        is("40 index", x.index(1), 1000);
        is("40 term", Check.lease(x, 0, 1), 2);
        is("40 rate", Check.lease(x, 0, 2), 100000);
        is("40 not begun", Check.lease(x, 0, 3), 0);
        is("40 account", x.account(0), 0);
        is("40 moved", x.moved(0, 0), 0);
        x.go(1);
        is("40 the option can be taken", x.take(0), 789);

        LeaseLedger y = Check.told("lease a 0 48 0;pay a 1 48 10;lease b 0 48 0;pay b 1 48 1;");
        y.go(12);
        y.go(12);
        is("40 twenty", y.count(6), 20);
        long latest = y.entry(39, 10);
        is("40 the fortieth", latest, -10);
        y.go(1);
        is("40 twenty still", y.count(6), 20);
        is("40 undo", y.undo(), 19);
        is("40 what fell out is kept again", y.entry(39, 1), 4);
        is("40 all entries", y.count(4), 50);
        for (int i = 18; i >= 0; i--) {
            is("40 undo", y.undo(), i);
        }
        is("40 none", y.undo(), -1);
        is("40 period", y.count(2), 5);
        is("40 entries", y.count(3), 12);
        is("40 the first", y.entry(11, 0), 0);
    }

    private static void p41Keep() {
        LeaseLedger x = begun(PLAIN);
        is("41 keep", x.keep(), 1);
        is("41 what can be undone stays", x.count(6), 1);
        x.go(1);
        is("41 in place of the one ahead", x.keep(), 2);
        x.undo();
        x.undo();
        is("41 undone", x.count(2), 0);
        is("41 the later one", x.back(), 2);
        is("41 keep can't be undone", x.undo(), -1);
    }

    private static void p42Back() {
        LeaseLedger x = begun(TIED);
        is("42 none", x.back(), -1);
        x.keep();
        x.become(1500);
        x.take(0);
        x.rate(0, 7);
        x.go(1);
        Check.feed(x, Check.bytes("seed 1;"));
        Check.tell(x, ";");
        Check.feed(x, Check.bytes("seed 1;"));
        is("42 back", x.back(), 1);
        is("42 nothing to undo", x.undo(), -1);
        is("42 the tape stays", x.count(7), 20);
        is("42 the fault stays", x.fault(0), 1);
        is("42 index", x.index(1), 1000);
        is("42 term", Check.lease(x, 0, 1), 4);
        is("42 rate", Check.lease(x, 0, 2), 0);
        is("42 due", x.due(0, 2), 1001);
        is("42 entries", x.count(4), 2);
        is("42 owed", x.amount(0, 0), 3003);
        is("42 account", x.account(1), -3003);
        is("42 the option can be taken", x.take(0), 200);
        is("42 it stays", x.back(), 1);
        is("42 term", Check.lease(x, 0, 1), 4);
    }

    private static void p43Count() {
        LeaseLedger x = Check.told("lease a 0 2 0;lease b 1 30 0;lease c 3 30 0;option a 1 1;option b 1 1;");
        is("43 leases", x.count(0), 3);
        is("43 options", x.count(1), 2);
        is("43 none begun", x.count(5), 0);
        x.go(1);
        is("43 begun", x.count(5), 1);
        x.go(1);
        is("43 one ended, one begun", x.count(5), 1);
        x.go(2);
        is("43 begun", x.count(5), 2);
        is("43 period", x.count(2), 4);
        is("43 entries", x.count(3), 3 + 4 + 2);
        is("43 all entries", x.count(4), 9);
        x.go(12);
        x.go(12);
        is("43 kept", x.count(3), 40);
        is("43 all", x.count(4), 57);
        is("43 undone", x.count(6), 20);
        x.feed(1, 2, 3, 4, 5);
        is("43 tape", x.count(7), 20);
        is("43 eight", x.count(8), -1);
        is("43 below 0", x.count(-1), -1);
    }

    private static void refusedChangesNothing() {
        LeaseLedger x = begun(PLAIN);
        int deeds = x.count(6);
        int entries = x.count(4);
        x.rate(0, -1);
        x.extend(0, 71);
        x.take(3);
        x.part(0, 1000);
        x.end(7);
        x.down(0, 99999);
        x.putOff(0, 1, 2);
        x.become(0);
        x.go(0);
        is("4. refused: nothing to undo", x.count(6), deeds);
        is("4. refused: no entry", x.count(4), entries);
        is("4. refused: owed", x.amount(0, 0), 1000);
    }
}
