import static java.lang.Integer.MAX_VALUE;
import static java.lang.Integer.MIN_VALUE;

import java.util.List;

/** The bounds of the TEXT: Terms 1, and promises 2 to 5. */
final class TextBounds {
    private static final String A = "lease a 0 9 0;";
    /** Each sort of LINE as its tokens, a W that may stand there, the least numbers. */
    private static final String[] LINES = {"lease b 0 1 0", "pay a 1 1 0", "early a", "fair a 1", "fee a 0", "tied a",
        "index 0 500", "option a 1 0", "seed 0"};
    private static final String[] WORDS = {"lease", "pay", "early", "fair", "fee", "tied", "index", "option", "seed"};

    private TextBounds() {
    }

    static void run() {
        Sentences.in("Terms");
        text();
        lines();
        words();
        names();
        digits();
        blanks();
        leaseLine();
        payLine();
        earlyLine();
        fairLine();
        feeLine();
        tiedLine();
        indexLine();
        optionLine();
        seedLine();
        firstFault();
        leastFault();
        faultOne();
        faultTwoNumbers();
        faultTwoLines();
        faultThree();
        faultFour();
        promise2();
        promise3();
        promise3Fault();
        promise3Refused();
        promise4();
        promise5();
    }

    private static void says(String words) {
        Sentences.says(words);
    }

    private static void is(String call, long got, long want) {
        Sentences.is(call, got, want);
    }

    private static LeaseLedger taken(String text, int lines) {
        LeaseLedger x = new LeaseLedger();
        is("text \"" + text + "\"", Check.tell(x, text), lines);
        is("FAULT of \"" + text + "\"", x.fault(0), 0);
        is("place in \"" + text + "\"", x.fault(1), -1);
        return x;
    }

    /** The place is where '!' stands; the '!' itself isn't told. */
    private static void refused(int sort, String marked) {
        int place = marked.indexOf('!');
        refusedAt(sort, marked.substring(0, place) + marked.substring(place + 1), place);
    }

    private static void refusedAt(int sort, String text, int place) {
        LeaseLedger x = new LeaseLedger();
        is("text \"" + text + "\"", Check.tell(x, text), -1);
        is("FAULT of \"" + text + "\"", x.fault(0), sort);
        is("place in \"" + text + "\"", x.fault(1), place);
        is("LEASES of \"" + text + "\"", x.count(0), 0);
    }

    private static void text() {
        says("A TEXT: { LINE ';' }.");
        taken("", 0);
        taken("seed 1;", 1);
        taken("seed 1;index 0 500;", 2);
        refused(1, "seed 1!");
        refused(1, "seed 1;index 0 500!");
        refused(1, "!;");
        refused(1, "seed 1;!;");
        refused(1, "seed 1!index 0 500;");
    }

    private static void lines() {
        says("LINE: lease W N N N | pay W N N N | early W | fair W N | fee W N | tied W | index N N | option W N N | seed N.");
        for (String line : LINES) {
            String[] tokens = line.split(" ");
            taken(A + line + ";", 2);
            refused(1, A + line + " !7;");
            refused(1, A + line + " !x;");
            refused(1, A + "!7 " + line + ";");
            refused(1, A + "!x " + line + ";");
            StringBuilder ahead = new StringBuilder(A + tokens[0]);
            for (int i = 1; i < tokens.length; i++) {
                String other = Character.isDigit(tokens[i].charAt(0)) ? "a" : "1";
                refused(1, ahead + "!");
                refused(1, ahead + "!;");
                refused(1, ahead + " !" + other + line.substring(line.indexOf(' ')) + ";");
                ahead.append(" ").append(tokens[i]);
            }
            refused(1, ahead + "!");
        }
    }

    private static void words() {
        says("Words: small letters in a row;");
        for (String name : new String[] {"a", "z", "az", "zzzzzz"}) {
            LeaseLedger x = taken("lease " + name + " 0 1 0;", 1);
            is("named " + name, x.named(Check.letters(name)), 0);
        }
        for (int sign = 0; sign < 256; sign++) {
            boolean small = sign >= 'a' && sign <= 'z';
            String text = "lease a" + (char) sign + " 0 1 0;";
            if (small || sign == 10 || sign == 32) {
                LeaseLedger x = taken(text, 1);
                is("letters of " + text, x.named(1 << 25 | (small ? sign - 'a' + 1 << 20 : 0)), 0);
            } else if (sign < '0' || sign > '9') {
                refusedAt(1, text, 7);
            }
        }
        // A word ends where a number begins, and a number where a word does: no blank must stand there.
        taken("lease a0 1 0;early a;", 2);
        taken("lease a 0 1 0;seed 0;fee a0;", 3);
        refused(1, "lease a 0 1 0!early a;");
    }

    private static void names() {
        says("W: one of 1 .. 6 letters, none of those of the language;");
        for (String line : LINES) {
            String[] tokens = line.split(" ");
            if (Character.isDigit(tokens[1].charAt(0))) {
                continue;
            }
            String behind = line.substring(line.indexOf(' ') + 2) + ";";
            boolean told = tokens[0].equals("lease");
            for (String name : new String[] {"z", "abcdef", "leas", "leases", "pays", "earl", "optio", "seeds", "tie"}) {
                taken((told ? A : "lease " + name + " 0 9 0;") + tokens[0] + " " + name + behind, 2);
            }
            refused(1, A + tokens[0] + " !" + behind.trim());
            refused(1, A + tokens[0] + " !abcdefg" + behind);
            refused(1, A + tokens[0] + " !abcdefgabcdefgabcdefgabcdefgabcdefg" + behind);
            for (String word : WORDS) {
                refused(1, A + tokens[0] + " !" + word + behind);
            }
        }
    }

    private static void digits() {
        says("N: digits.");
        for (int sign = 0; sign < 256; sign++) {
            String text = "seed 1" + (char) sign + ";";
            if (sign >= '0' && sign <= '9') {
                LeaseLedger x = taken(text, 1);
                LeaseLedger y = taken("lease t 0 13 0;pay t 13 13 99999;tied t;" + text, 4);
                is("chance by " + text, y.chance(-1, 1, 0), y.chance(10 + sign - '0', 1, 0));
                is("LEASES", x.count(0), 0);
            } else if (sign == 10 || sign == 32) {
                taken(text, 1);
            } else {
                refusedAt(1, text, sign == ';' ? 7 : 6);
            }
        }
        is("zeros ahead", Check.lease(taken("lease a 0 00000000000000000000000048 0;", 1), 0, 1), 48);
        refused(1, "seed !-1;");
        refused(1, "seed !+1;");
        refused(1, "seed 1!.5;");
    }

    private static void blanks() {
        says("Blanks 10, 32.");
        taken("\n \n", 0);
        taken(" \nlease\n\na \n0  1\n0 ; \n", 1);
        for (int sign = 0; sign < 256; sign++) {
            String text = "seed 1;" + (char) sign;
            if (sign == 10 || sign == 32) {
                taken(text, 1);
            } else {
                refusedAt(1, text, 7);
            }
        }
    }

    /** A number of a LINE: what stands ahead of it and behind it, its bounds. */
    private static void number(String ahead, int low, int high, String behind) {
        int lines = (int) (ahead + behind).chars().filter(c -> c == ';').count();
        taken(ahead + low + behind, lines);
        taken(ahead + high + behind, lines);
        taken(ahead + "0000000000" + high + behind, lines);
        if (low > 0) {
            refused(2, ahead + "!" + (low - 1) + behind);
            refused(2, ahead + "!000" + (low - 1) + behind);
        }
        refused(2, ahead + "!" + (high + 1) + behind);
        // Numbers that wrap around to one that would be taken.
        refused(2, ahead + "!" + (4294967296L + high) + behind);
        refused(2, ahead + "!" + java.math.BigInteger.TWO.pow(64).add(java.math.BigInteger.valueOf(high)) + behind);
        refused(2, ahead + "!" + "9".repeat(60) + behind);
        refused(2, ahead + "!1" + "0".repeat(60) + behind);
    }

    private static void leaseLine() {
        says("lease, at most 4: name, the PERIOD in which it begins 0 .. 20, TERM 1 .. 48, RATE 0 .. 200000; numbered from 0 on as they come.");
        number("lease a ", 0, 20, " 1 0;");
        number("lease a 0 ", 1, 48, " 0;");
        number("lease a 0 1 ", 0, 200000, ";");
        LeaseLedger x = taken("lease d 0 1 0;lease c 20 48 200000;lease b 1 2 3;lease a 4 5 6;", 4);
        String[] names = {"d", "c", "b", "a"};
        long[][] numbers = {{0, 1, 0}, {20, 48, 200000}, {1, 2, 3}, {4, 5, 6}};
        for (int i = 0; i < 4; i++) {
            is("named " + names[i], x.named(Check.letters(names[i])), i);
            for (int what = 0; what < 3; what++) {
                is("lease(" + i + ", " + what + ")", Check.lease(x, i, what), numbers[i][what]);
            }
        }
        is("LEASES", x.count(0), 4);
        refused(2, "lease d 0 1 0;lease c 0 1 0;lease b 0 1 0;lease a 0 1 0;!lease e 0 1 0;");
    }

    private static void payLine() {
        says("pay, at most 12: of its periods from the first N to the second one, 1 .. 48, 0 .. 99999 each, more than what was told ahead.");
        number(A + "pay a ", 1, 48, " 48 1;");
        number(A + "pay a 1 ", 1, 48, " 1;");
        number(A + "pay a 1 1 ", 0, 99999, ";");
        LeaseLedger x = taken("lease a 0 48 0;pay a 1 1 5;pay a 48 48 6;pay a 2 47 70;pay a 47 48 100;pay a 1 48 0;", 6);
        long[][] due = {{1, 5}, {2, 70}, {46, 70}, {47, 170}, {48, 106}};
        for (long[] d : due) {
            is("due(0, " + d[0] + ")", x.due(0, (int) d[0]), d[1]);
        }
        String twelve = A + "pay a 1 1 99999;".repeat(12);
        is("twelve pays", taken(twelve, 13).due(0, 1), 12 * 99999);
        refused(2, twelve + "!pay a 1 1 1;");
        // Twelve of all LEASES together.
        refused(2, A + "lease b 0 9 0;" + "pay a 1 1 1;".repeat(6) + "pay b 1 1 1;".repeat(6) + "!pay b 1 1 1;");
    }

    private static void earlyLine() {
        says("early: it pays at the beginning of periods (else at the end).");
        LeaseLedger x = taken("lease a 0 1 200000;pay a 1 1 12;lease b 0 1 200000;pay b 1 1 12;early b;", 5);
        is("at the end", x.worth(0, 1, 200000), 10);
        is("at the beginning", x.worth(1, 1, 200000), 12);
    }

    private static void fairLine() {
        says("fair: 1 .. 9999999.");
        number(A + "fair a ", 1, 9999999, ";");
    }

    private static void feeLine() {
        says("fee: 0 .. 99999 (0).");
        number(A + "fee a ", 0, 99999, ";");
        is("told", Check.lease(taken(A + "fee a 99999;", 2), 0, 6), 99999);
        is("told 0", Check.lease(taken(A + "fee a 0;", 2), 0, 6), 0);
        is("not told", Check.lease(taken(A, 1), 0, 6), 0);
    }

    private static void tiedLine() {
        says("tied: it follows the INDEX.");
        LeaseLedger x = taken("lease a 0 3 0;pay a 1 3 10;lease b 0 3 0;pay b 1 3 10;tied b;index 1 1500;", 6);
        x.go(2);
        is("not tied", x.due(0, 3), 10);
        is("tied", x.due(1, 3), 15);
    }

    private static void indexLine() {
        says("index, at most 8: from a PERIOD 0 .. 99 on, later than that of the index told ahead, it is 500 .. 2000 (1000 ahead of all).");
        number("index ", 0, 99, " 500;");
        number("index 0 ", 500, 2000, ";");
        LeaseLedger x = taken("index 1 500;index 2 2000;index 99 600;", 3);
        long[][] index = {{0, 1000}, {1, 500}, {2, 2000}, {98, 2000}, {99, 600}};
        for (long[] i : index) {
            is("index(" + i[0] + ")", x.index((int) i[0]), i[1]);
        }
        refused(2, "index 1 500;index !1 500;");
        refused(2, "index 1 500;index !0 500;");
        refused(2, "index 99 500;index !99 500;");
        refused(2, "index 99 500;index !100 500;");
        String eight = "index 0 500;index 1 500;index 2 500;index 3 500;index 4 500;index 5 500;index 6 500;index 7 500;";
        taken(eight, 8);
        refused(2, eight + "!index 8 500;");
    }

    private static void optionLine() {
        says("option, at most 4: of a LEASE, 1 .. 24 periods more, 0 .. 99999 each; numbered from 0 on.");
        number(A + "option a ", 1, 24, " 1;");
        number(A + "option a 1 ", 0, 99999, ";");
        LeaseLedger x = taken(A + "lease b 0 9 0;option b 24 99999;option a 1 0;option b 2 7;option a 3 8;", 6);
        is("options", x.count(1), 4);
        x.go(1);
        is("take(0)", x.take(0), 24 * 99999);
        is("take(1)", x.take(1), 0);
        is("take(2)", x.take(2), 14);
        is("take(3)", x.take(3), 24);
        is("TERM of a", Check.lease(x, 0, 1), 13);
        is("TERM of b", Check.lease(x, 1, 1), 35);
        refused(2, A + "option a 1 0;".repeat(4) + "!option a 1 0;");
    }

    private static void seedLine() {
        says("seed: 0 .. 99999 (0).");
        number("seed ", 0, 99999, ";");
        String tied = "lease t 0 13 0;pay t 13 13 99999;tied t;";
        LeaseLedger x = taken(tied + "seed 99999;", 4);
        is("by the seed", x.chance(-1, 1, 0), x.chance(99999, 1, 0));
        LeaseLedger y = taken(tied, 3);
        is("none told", y.chance(-1, 1, 0), y.chance(0, 1, 0));
        for (int i = 1; i <= 3; i++) {
            Check.tell(x, tied);
            is("none told in text " + i + " behind the first", x.chance(-1, 1, 0), y.chance(0, 1, 0));
        }
        Sentences.holds("these are told apart", x.chance(99999, 1, 0) != x.chance(0, 1, 0));
    }

    /** Texts with one FAULT each, all of them such that a text goes on behind. */
    private static final String[] FAULTY = {"1lease !1 0 1 0;", "1!q;", "1early !abcdefg;", "1seed!;", "2seed !100000;",
        "2lease b !21 1 0;", "2pay a 3 !2 1;", "2fair a !0;", "3lease !a 0 1 0;", "4early !b;", "4pay !b 1 1 1;"};

    private static void firstFault() {
        says("FAULTS, the first along the text");
        for (String one : FAULTY) {
            for (String two : FAULTY) {
                String behind = two.substring(1).replace("!", "");
                refused(one.charAt(0) - '0', A + one.substring(1) + behind);
                refused(one.charAt(0) - '0', A + "index 7 800;" + one.substring(1) + "index 7 800;" + behind);
            }
        }
        // In one LINE, too: name, numbers, what must come.
        refused(3, A + "lease !a 21 49 200001");
        refused(2, A + "lease b !21 49 200001");
        refused(2, A + "lease b 20 !49 200001");
        refused(2, A + "lease b 20 48 !200001");
        refused(4, A + "pay !b 0 0 100000 Q");
        refused(2, A + "pay a !0 0 100000 Q");
        refused(3, A + "tied a;tied !a Q");
    }

    private static void leastFault() {
        says("(of one place the least), with its place:");
        // 1 ahead of 4 and 3: a W that is none is no LEASE that isn't told, and none told already.
        refused(1, A + "early !abcdefg;");
        refused(1, A + "early !index;");
        refused(1, "lease !lease 0 1 0;");
        // 1 ahead of 2: a number, a LINE's word where none can stand is not too much of it.
        refused(1, A + "early a !100000;");
        refused(1, "lease a 0 1 0;lease b 0 1 0;lease c 0 1 0;lease d 0 1 0;early a !lease e 0 1 0;");
        refused(1, A + "option a 1 0;".repeat(4) + "seed !option a 1 0;");
        // 1 ahead of 3: seed where no LINE begins.
        refused(1, A + "seed 1;early !seed;");
        refused(1, "seed 1 !seed 1;");
        // The first byte, the last one, the length.
        refusedAt(1, "Q", 0);
        refusedAt(1, "seed 1;Q", 7);
        refusedAt(1, "seed 1", 6);
    }

    private static void faultOne() {
        says("1 a TOKEN that is none (a word of more than 6 letters that isn't of the language, too) or can't stand there (the length, if more must come).");
        refused(1, "!#");
        refused(1, "!" + (char) 255);
        refused(1, A + "early a!#;");
        refused(1, "!abcdefg 1;");
        refused(1, "!seedseed 1;");
        refused(1, "!leaseab 0 1 0;");
        refused(1, "!abcdef 1;");
        refused(1, "!a 1;");
        refused(1, "lease !abcdefg 0 1 0;");
        refused(1, "lease!");
        refused(1, "lease \n !");
        refused(1, "lease a 0!");
        refused(1, "lease a 0 1 0!");
        refused(1, "lease a 0 1 0  !");
        // The length is the one that text() was told, not that of the TAPE.
        LeaseLedger x = new LeaseLedger();
        Check.feed(x, Check.bytes("seed 12345;"));
        is("text(7) of \"seed 12345;\"", x.text(7), -1);
        is("FAULT", x.fault(0), 1);
        is("place", x.fault(1), 7);
        Check.feed(x, Check.bytes("lease a 0 1 0;early ab;"));
        is("text(21) of \"lease a 0 1 0;early ab;\"", x.text(21), -1);
        is("FAULT", x.fault(0), 1);
        is("place", x.fault(1), 21);
        Check.feed(x, Check.bytes("seed 1;early ab;"));
        is("text(11) of \"seed 1;early ab;\"", x.text(11), -1);
        is("FAULT", x.fault(0), 1);
        is("place", x.fault(1), 7);
        // The TAPE is full to its last byte.
        String blanks = " ".repeat(640);
        refused(1, "lease a 0 1 0;" + blanks + " ".repeat(33) + "early !abcdefg");
        refused(1, "lease a 0 1 0;" + blanks + " ".repeat(39) + "early a!");
        refused(1, "lease a 0 1 0;" + blanks + " ".repeat(40) + "seed 9!");
        refused(1, "lease a 0 1 0;" + blanks + " ".repeat(45) + "!#");
        taken("lease a 0 1 0;" + blanks + " ".repeat(38) + "early a;", 2);
        taken("lease a 0 1 0;" + blanks + " ".repeat(39) + "seed 9;", 2);
    }

    private static void faultTwoNumbers() {
        says("2 too much (at it): a number beyond what is said (a second N of pay less than the first, a PERIOD of index that isn't later),");
        taken(A + "pay a 48 48 1;", 2);
        taken(A + "pay a 7 8 1;", 2);
        taken(A + "pay a 8 8 1;", 2);
        refused(2, A + "pay a 8 !7 1;");
        refused(2, A + "pay a 48 !47 1;");
        refused(2, A + "pay a 48 !1 1;");
        refused(2, A + "pay a 2 !0 1;");
        taken("index 5 600;index 6 600;", 2);
        refused(2, "index 5 600;index !5 600;");
        refused(2, "index 5 600;index !4 600;");
        refused(2, "index 5 600;index 9 600;index !6 600;");
        refused(2, "index 0 600;index !0 600;");
    }

    private static void faultTwoLines() {
        says("a fifth lease, option, a thirteenth pay, a ninth index (at the word of the LINE).");
        String four = "lease a 0 1 0;lease b 0 1 0;lease c 0 1 0;lease d 0 1 0;";
        taken(four, 4);
        refused(2, four + " !lease");
        refused(2, four + "seed 1;!lease a 99 99 99;");
        taken(A + "option a 1 1;".repeat(4), 5);
        refused(2, A + "option a 1 1;".repeat(4) + "\n!option");
        refused(2, A + "option a 1 1;".repeat(4) + "!option zz 0 0;");
        taken(A + "pay a 1 1 1;".repeat(12), 13);
        refused(2, A + "pay a 1 1 1;".repeat(12) + "  !pay");
        refused(2, A + "pay a 1 1 1;".repeat(12) + "!pay zz 0 0 0;");
        StringBuilder eight = new StringBuilder();
        for (int i = 0; i < 8; i++) {
            eight.append("index ").append(92 + i).append(" 500;");
        }
        taken(eight.toString(), 8);
        refused(2, eight + "!index");
        refused(2, eight + "!index 100 1;");
    }

    private static void faultThree() {
        says("3 told already: a name (at W), early, fair, fee, tied of the LEASE (at W), seed (at the word).");
        String two = "lease a 0 1 0;lease b 0 1 0;";
        refused(3, two + "lease !a 0 1 0;");
        refused(3, two + "lease !b 0 1 0;");
        taken(two + "lease aa 0 1 0;lease ba 0 1 0;", 4);
        String[] lines = {"early ? ", "tied ? ", "fair ? 1", "fee ? 0"};
        for (String line : lines) {
            String word = line.substring(0, line.indexOf('?'));
            String rest = line.substring(line.indexOf('?') + 1) + ";";
            taken(two + word + "a" + rest + word + "b" + rest, 4);
            refused(3, two + word + "a" + rest + word + "!a" + rest);
            refused(3, two + word + "b" + rest + word + "a" + rest + word + "!b" + rest);
            for (String other : lines) {
                if (!other.equals(line)) {
                    taken(two + word + "a" + rest + other.replace("?", "a") + ";", 4);
                }
            }
        }
        taken(two + "seed 0;", 3);
        refused(3, two + "seed 0;!seed 0;");
        refused(3, two + "seed 7;early a;!seed");
        // pay, option, index may come again.
        taken(two + "pay a 1 1 1;pay a 1 1 1;option a 1 1;option a 1 1;index 0 500;index 1 500;", 8);
    }

    private static void faultFour() {
        says("4 a LEASE that isn't told ahead (at W).");
        String[] lines = {"pay !b 1 1 1;", "early !b;", "fair !b 1;", "fee !b 1;", "tied !b;", "option !b 1 1;"};
        for (String line : lines) {
            refused(4, line);
            refused(4, A + line);
            refused(4, A + line + "lease b 0 1 0;");
            refused(4, A + "lease bb 0 1 0;" + line);
            taken("lease b 0 1 0;" + line.replace("!", ""), 2);
        }
    }

    private static int[] five(int at, int sign) {
        int[] n = {0x20202020, 0x20202020, 0x20202020, 0x20202020, 0x20202020};
        int shift = 24 - 8 * (at % 4);
        n[at / 4] = n[at / 4] & ~(255 << shift) | sign << shift;
        return n;
    }

    private static void promise2() {
        Sentences.in("Promise 2");
        says("Twenty bytes come behind the TAPE, four of each number, the highest first: how many it has;");
        for (int at = 0; at < 20; at++) {
            for (int sign : new int[] {'#', 255, 0}) {
                LeaseLedger x = new LeaseLedger();
                int[] n = five(at, sign);
                is("feed", x.feed(0x20202020, 0x20202020, 0x20202020, 0x20202020, 0x20202020), 20);
                is("feed", x.feed(n[0], n[1], n[2], n[3], n[4]), 40);
                is("text(40)", x.text(40), -1);
                is("where byte " + at + " of the second feed() came", x.fault(1), 20 + at);
            }
        }
        says("NONE, and none come, if it would have more than 700.");
        Twin.refused("feed, 700 are there", TextBounds::full, x -> x.feed(0x23232323, 0, 0, 0, 0), -1);
        LeaseLedger x = full();
        is("count(7)", x.count(7), 700);
        is("text(700)", x.text(700), 0);
        is("feed, the TAPE is empty", x.feed(0, 0, 0, 0, 0), 20);
        LeaseLedger y = full();
        is("text(1)", y.text(1), 0);
        is("feed, the TAPE is empty", y.feed(0, 0, 0, 0, 0), 20);
    }

    private static LeaseLedger full() {
        LeaseLedger x = new LeaseLedger();
        for (int i = 1; i <= 35; i++) {
            is("feed", x.feed(0x20202020, 0x20202020, 0x20202020, 0x20202020, 0x20202020), 20 * i);
        }
        return x;
    }

    private static void promise3() {
        Sentences.in("Promise 3");
        says("The TAPE's first n bytes (it is empty then) are the TEXT");
        LeaseLedger x = new LeaseLedger();
        Check.feed(x, Check.bytes("seed 1;seed 2;"));
        is("text(7) of 14", x.text(7), 1);
        is("count(7)", x.count(7), 0);
        is("text(1), it is empty", x.text(1), -2);
        is("text(0)", x.text(0), 0);
        says("(PERIOD 0, nothing begun, no ENTRIES, no IMAGE)");
        is("all is as in a new object (the first thing that isn't)",
            Probe.firstDifference(Probe.of(TextBounds::emptied), Probe.of(Twin.NEW)), -1);
        is("a text behind another is as in a new object (the first thing that isn't)",
            Probe.firstDifference(Probe.of(TextBounds::toldAnew), Probe.of(Twin.TOLD)), -1);
        is("plain text behind full ones (the first thing that isn't as in a new object)",
            Probe.firstDifference(Probe.of(() -> behindFull(0)), Probe.of(() -> Check.told(PLAIN))), -1);
        is("and when it has begun", Probe.firstDifference(Probe.of(() -> behindFull(2)), Probe.of(TextBounds::plainBegun)), -1);
        says("how many LINES;");
        taken("", 0);
        taken(" ".repeat(699) + "\n", 0);
        StringBuilder all = new StringBuilder();
        String[] names = {"a", "b", "c", "d"};
        for (String name : names) {
            all.append("lease ? 0 1 0;early ?;fair ? 1;fee ? 0;tied ?;option ? 1 0;".replace("?", name));
            all.append("pay ? 1 1 1;pay ? 1 1 1;pay ? 1 1 1;".replace("?", name));
        }
        for (int i = 0; i < 8; i++) {
            all.append("index ").append(i).append(" 500;");
        }
        all.append("seed 0;");
        taken(all.toString(), 45);
        all.append(" ".repeat(700 - all.length()));
        taken(all.toString(), 45);
    }

    /** Nothing but what must be told. */
    private static final String PLAIN = "lease a 0 3 0;lease b 1 3 5;lease c 0 3 7;lease d 0 3 9;" + "pay a 1 3 5;".repeat(12)
        + "option a 1 1;option b 1 1;option c 1 1;option d 1 1;";

    private static LeaseLedger plainBegun() {
        LeaseLedger x = Check.told(PLAIN);
        x.go(2);
        return x;
    }

    /** Behind two texts that tell all that there is, and all sorts of deeds: nothing of them is left. */
    private static LeaseLedger behindFull(int periods) {
        StringBuilder all = new StringBuilder("index 0 600;index 3 700;seed 9;");
        for (String name : new String[] {"d", "c", "b", "a"}) {
            all.append("lease ? 0 9 77;early ?;fair ? 5;fee ? 9;tied ?;option ? 2 9;pay ? 1 9 4;pay ? 9 48 5;pay ? 1 1 1;".replace("?", name));
        }
        LeaseLedger x = new LeaseLedger();
        for (int i = 0; i < 2; i++) {
            is("a full text", Check.tell(x, all.toString()), 3 + 4 * 9);
            x.go(2);
            for (int k = 0; k < 4; k++) {
                x.take(k);
                x.rate(k, 8);
                x.part(k, 300);
            }
            x.end(1);
            x.keep();
            x.chance(-1, 3, 0);
        }
        is("the plain text", Check.tell(x, PLAIN), 20);
        if (periods > 0) {
            x.go(periods);
        }
        return x;
    }

    private static LeaseLedger emptied() {
        LeaseLedger x = Twin.BUSY.get();
        x.text(0);
        return x;
    }

    private static LeaseLedger toldAnew() {
        LeaseLedger x = Twin.BUSY.get();
        x.text(0);
        Check.tell(x, Twin.RICH);
        return x;
    }

    private static void promise3Fault() {
        says("NONE with a FAULT, all else stays;");
        List<Long> was = Probe.of(TextBounds::withoutTape);
        for (String bad : new String[] {";", "seed 1;seed 2;", "lease q 0 9 0;pay q 1 9 5;index 0 500;seed 9;early z;", "seed 1", "lease a 21 1 0;"}) {
            LeaseLedger x = withoutTape();
            is("text \"" + bad + "\"", Check.tell(x, bad), -1);
            is("count(7), the TAPE is empty", x.count(7), 0);
            List<Long> then = Probe.of(() -> {
                LeaseLedger y = withoutTape();
                Check.tell(y, bad);
                return y;
            });
            Sentences.holds("its FAULT is another one", !was.get(Probe.FAULT_AT).equals(then.get(Probe.FAULT_AT)));
            is("all else behind \"" + bad + "\" (the first thing that it changed)",
                Probe.firstDifference(withoutFault(was), withoutFault(then)), -1);
        }
    }

    private static LeaseLedger withoutTape() {
        LeaseLedger x = Check.told(Twin.RICH);
        x.go(2);
        x.become(1234);
        x.keep();
        x.rate(0, 7);
        x.go(3);
        return x;
    }

    /** The FAULT is told in the first part, and again behind back() and behind text(). */
    private static List<Long> withoutFault(List<Long> seen) {
        List<Long> rest = new java.util.ArrayList<>(seen);
        int state = stateSize();
        for (int at : new int[] {seen.size() - state + Probe.FAULT_AT, seen.size() - 2 * state - 1 + Probe.FAULT_AT, Probe.FAULT_AT}) {
            rest.set(at, 0L);
            rest.set(at + 1, 0L);
        }
        return rest;
    }

    private static int stateSize() {
        return 8 + 2 + 6 * 7 + 5 + 4 * 16;
    }

    private static void promise3Refused() {
        says("-2, and the TAPE stays: there are not so many, n is below 0.");
        Twin.refused("text(41) of 40", Twin.BUSY, x -> x.text(41), -2);
        Twin.refused("text(-1)", Twin.BUSY, x -> x.text(-1), -2);
        Twin.refused("text of the least int", Twin.BUSY, x -> x.text(MIN_VALUE), -2);
        Twin.refused("text of the greatest int", Twin.BUSY, x -> x.text(MAX_VALUE), -2);
        Twin.refused("text(1) of none", Twin.NEW, x -> x.text(1), -2);
        Twin.refused("text(701) of 700", TextBounds::full, x -> x.text(701), -2);
        is("text(40) of 40", Twin.BUSY.get().text(40), 2);
        is("text(0) of 40", Twin.BUSY.get().text(0), 0);
        is("text(700) of 700", full().text(700), 0);
    }

    private static void promise4() {
        Sentences.in("Promise 4");
        says("Of the latest text() that was not -2, what 0: its FAULT (0), 1: its place (NONE without).");
        LeaseLedger x = new LeaseLedger();
        is("fault(0), no text()", x.fault(0), 0);
        is("fault(1), no text()", x.fault(1), -1);
        Check.tell(x, "seed 1;seed 2;");
        is("fault(0)", x.fault(0), 3);
        is("fault(1)", x.fault(1), 7);
        is("text(-1)", x.text(-1), -2);
        is("fault(0) behind a text() that was -2", x.fault(0), 3);
        is("fault(1) behind a text() that was -2", x.fault(1), 7);
        Check.tell(x, "Q");
        is("fault(0) of the latest", x.fault(0), 1);
        is("fault(1) of the latest", x.fault(1), 0);
        is("text(0)", x.text(0), 0);
        is("fault(0) without", x.fault(0), 0);
        is("fault(1) without", x.fault(1), -1);
        says("NONE for another what.");
        Twin.bounds("fault", Twin.BUSY, TextBounds::faultOrNone, -1, 0, 1);
        Twin.refused("fault(2) with a FAULT", TextBounds::faulty, y -> y.fault(2), -1);
        Twin.refused("fault(-1) with a FAULT", TextBounds::faulty, y -> y.fault(-1), -1);
    }

    /** Without a FAULT its place is NONE, too. */
    private static long faultOrNone(LeaseLedger x, int what) {
        int answer = x.fault(what);
        return what == 1 && answer == -1 ? 0 : answer;
    }

    private static LeaseLedger faulty() {
        LeaseLedger x = new LeaseLedger();
        Check.tell(x, "seed 1;Q");
        return x;
    }

    private static void promise5() {
        Sentences.in("Promise 5");
        says("A LEASE by its letters, 5 bits each (a is 1; the first one highest of six, 0 behind the last one): its number;");
        LeaseLedger x = taken("lease a 0 1 0;lease az 0 1 0;lease zzzzzz 0 1 0;lease abcdef 0 1 0;", 4);
        is("a", x.named(1 << 25), 0);
        is("az", x.named(1 << 25 | 26 << 20), 1);
        is("zzzzzz", x.named(26 << 25 | 26 << 20 | 26 << 15 | 26 << 10 | 26 << 5 | 26), 2);
        is("abcdef", x.named(1 << 25 | 2 << 20 | 3 << 15 | 4 << 10 | 5 << 5 | 6), 3);
        says("NONE: there is none such.");
        int[] none = {0, 1, -1, MIN_VALUE, MAX_VALUE, 1 << 20, 2 << 25, 1 << 25 | 1, 1 << 25 | 1 << 20, 1 << 25 | 1 << 30,
            1 << 25 | 1 << 31, 1 << 25 | 26 << 15, 1 << 25 | 27 << 20, 31 << 25, 27 << 25,
            1 << 25 | 2 << 20 | 3 << 15 | 4 << 10 | 5 << 5, 1 << 25 | 2 << 20 | 3 << 15 | 4 << 10 | 5 << 5 | 7};
        for (int letters : none) {
            is("named(" + letters + ")", x.named(letters), -1);
        }
        Twin.refused("named(0)", Twin.BUSY, y -> y.named(0), -1);
        Twin.refused("named(1)", Twin.BUSY, y -> y.named(1), -1);
        Twin.refused("named(-1) without LEASES", Twin.NEW, y -> y.named(-1), -1);
        is("named(0) without LEASES", new LeaseLedger().named(0), -1);
        for (String word : WORDS) {
            is("a word of the language: " + word, x.named(Check.letters(word)), -1);
        }
        Check.tell(x, "lease b 0 1 0;");
        is("one of the text ahead", x.named(1 << 25), -1);
        is("b", x.named(2 << 25), 0);
    }
}
