import java.math.BigInteger;

/** The bounds that the document's Terms 2 to 4 name, sentence by sentence. */
final class TermBounds {
    /** Paid at the end: 1100 twice by a tenth, worth 1909; 1000 is OWED behind the first, 955 USED. */
    private static final String PLAIN = "lease a 0 2 100000;pay a 1 2 1100;";

    private TermBounds() {
    }

    static void run() {
        Sentences.in("What it is");
        calls512();
        Sentences.in("Terms");
        rounded();
        ownPeriods();
        told();
        worth();
        found();
        accounts();
        owedAndUsed();
        runs();
        begins();
        indexedWhen();
        indexed();
        paidAtTheEnd();
        lastAtTheEnd();
        paidEarly();
        lastEarly();
        writtenOff();
        entryOne();
        ended();
        remeasured();
        usedNotLess();
        left();
    }

    private static void says(String words) {
        Sentences.says(words);
    }

    private static void is(String call, long got, long want) {
        Sentences.is(call, got, want);
    }

    private static LeaseLedger begun(String text) {
        LeaseLedger x = Check.told(text);
        x.go(1);
        return x;
    }

    private static void entry(LeaseLedger x, int k, long... due) {
        int[] whats = {0, 1, 2, 10, 11, 12, 13, 14, 15};
        for (int i = 0; i < due.length; i++) {
            is("entry(" + k + ", " + whats[i] + ")", x.entry(k, whats[i]), due[i]);
        }
    }

    private static void calls512() {
        says("An object is used for at most 512 calls after it has been made; what later calls answer is free.");
        LeaseLedger x = new LeaseLedger();
        Check.feed(x, Check.bytes("lease a 0 48 0;pay a 1 48 1;"));
        is("text", x.text(28), 2);
        is("go", x.go(1), 1);
        for (int call = 5; call <= 511; call++) {
            is("call " + call, x.rate(0, call % 2 == 0 ? 0 : 200000), call % 2 == 0 ? 44 : -44);
        }
        is("the 512th call", x.count(4), 2 + 507);
    }

    private static void rounded() {
        says("Amounts are whole; ROUNDED: to the nearest, a half upwards (amounts are 0 or more there).");
        LeaseLedger x = Check.told("lease a 0 5 0;pay a 1 1 1;pay a 2 2 2;pay a 3 3 3;pay a 5 5 5;");
        is("5 by 2", x.worth(0, 5, 1000000), 3);
        is("3 by 2", Check.told("lease a 0 1 0;pay a 1 1 3;").worth(0, 1, 1000000), 2);
        is("1 by 2", Check.told("lease a 0 1 0;pay a 1 1 1;").worth(0, 1, 1000000), 1);
        is("0 by 2", Check.told("lease a 0 1 0;").worth(0, 1, 1000000), 0);
        LeaseLedger two = Check.told("lease a 0 1 0;pay a 1 1 2;");
        is("2000000 by 1333333, above a half", two.worth(0, 1, 333333), 2);
        is("2000000 by 1333334, below a half", two.worth(0, 1, 333334), 1);
        // 5 is worth 4.545; INTEREST 0.5, or 0.499995.
        is("INTEREST 0.5", begun("lease a 0 2 100000;pay a 1 1 5;").entry(0, 13), 1);
        is("INTEREST 0.499995", begun("lease a 0 2 99999;pay a 1 1 5;").entry(0, 13), 0);
        is("early INTEREST 0.5", begun("lease a 0 3 100000;pay a 2 2 5;early a;").entry(0, 13), 1);
        is("early INTEREST 0.499995", begun("lease a 0 3 99999;pay a 2 2 5;early a;").entry(0, 13), 0);
    }

    private static void ownPeriods() {
        says("A LEASE's own periods are 1 .. TERM, the first one is the PERIOD in which it begins.");
        LeaseLedger x = Check.told("lease a 0 1 0;pay a 1 48 7;lease b 20 48 0;pay b 1 48 7;");
        is("due(0, 0)", x.due(0, 0), -1);
        is("due(0, 1)", x.due(0, 1), 7);
        is("due(0, 2)", x.due(0, 2), -1);
        is("due(1, 48)", x.due(1, 48), 7);
        is("due(1, 49)", x.due(1, 49), -1);
        is("worth(0, 1, 0)", x.worth(0, 1, 0), 7);
        is("worth(1, 48, 0)", x.worth(1, 48, 0), 7);
        is("worth(1, 1, 0)", x.worth(1, 1, 0), 48 * 7);
        is("in PERIOD 0", x.cash(0, 0), 7);
        is("in PERIOD 1", x.cash(1, 1), 0);
        is("in PERIOD 19", x.cash(19, 19), 0);
        is("in PERIOD 20", x.cash(20, 20), 7);
        is("in PERIOD 67", x.cash(67, 67), 7);
        is("in PERIOD 68", x.cash(68, 68), 0);
    }

    private static void told() {
        says("TOLD of one: what pays tell together (beyond what was told 0). DUE: TOLD, till something changes it.");
        LeaseLedger x = Check.told("lease a 0 5 0;pay a 2 3 10;pay a 3 4 5;");
        long[] due = {0, 10, 15, 5, 0};
        for (int k = 1; k <= 5; k++) {
            is("due(0, " + k + ")", x.due(0, k), due[k - 1]);
        }
        x.go(5);
        for (int k = 1; k <= 5; k++) {
            is("due(0, " + k + ") when it has gone by", x.due(0, k), due[k - 1]);
        }
    }

    private static void worth() {
        says("WORTH of own periods from k on by a rate r: behind the last one 0; of one, going back: at the end paid:"
            + " (WORTH behind it and DUE) times 1000000 by (1000000 and r), ROUNDED;");
        LeaseLedger x = Check.told("lease a 0 3 0;pay a 1 3 3;lease b 0 3 0;pay b 1 3 3;early b;");
        is("the last one: 1.5", x.worth(0, 3, 1000000), 2);
        is("2 and 3: 2.5", x.worth(0, 2, 1000000), 3);
        is("3 and 3: 3", x.worth(0, 1, 1000000), 3);
        is("by 0", x.worth(0, 1, 0), 9);
        says("early: DUE, and WORTH behind it times 1000000 by (1000000 and r), ROUNDED.");
        is("the last one", x.worth(1, 3, 1000000), 3);
        is("3 and 1.5", x.worth(1, 2, 1000000), 5);
        is("3 and 2.5", x.worth(1, 1, 1000000), 6);
        is("by 0", x.worth(1, 1, 0), 9);
    }

    private static void rateFound(String text, long rate, long found) {
        LeaseLedger x = Check.told(text);
        is("RATE of " + text, Check.lease(x, 0, 2), rate);
        is("FOUND of " + text, Check.lease(x, 0, 7), found);
    }

    private static void found() {
        says("RATE of a LEASE with fair: the greatest of 0 .. 200000 by which WORTH of all its periods is fair or more (FOUND);");
        // 1000 by 1.010611 is 989.5, by 1.010612 less.
        rateFound("lease c 0 1 5;pay c 1 1 1000;fair c 990;", 10611, 1);
        // By 1.2 it is 833.3, so 833 is found at the bound; 834 below it: 1000000000 by 833.5 is 1199760.04.
        rateFound("lease c 0 1 5;pay c 1 1 1000;fair c 833;", 200000, 1);
        rateFound("lease c 0 1 5;pay c 1 1 1000;fair c 834;", 199760, 1);
        rateFound("lease c 0 1 5;pay c 1 48 1000;fair c 834;", 199760, 1);
        rateFound("lease c 0 1 5;pay c 1 1 1000;fair c 1;", 200000, 1);
        rateFound("lease c 0 1 5;pay c 1 1 1000;fair c 1000;early c;", 200000, 1);
        // By 0 alone: one of a million less takes 1.1 off.
        String eleven = "lease c 0 1 5;" + "pay c 1 1 99999;".repeat(11);
        rateFound(eleven + "fair c 1099989;", 0, 1);
        says("if there is none, RATE as told.");
        rateFound(eleven + "fair c 1099990;", 5, 0);
        rateFound("lease c 0 1 200000;fair c 1;", 200000, 0);
        rateFound("lease c 0 1 0;pay c 1 1 99999;fair c 9999999;", 0, 0);
        rateFound("lease c 0 1 77;pay c 1 1 99999;", 77, 0);
    }

    private static void accounts() {
        says("ACCOUNTS 0 CASH, 1 OWED, 2 USED, 3 INTEREST, 4 WRITTEN OFF, 5 GAIN; an ENTRY puts amounts (more, or less) on them that together are 0.");
        LeaseLedger x = Twin.BUSY.get();
        is("kept", x.count(3), 40);
        for (int k = 0; k < 40; k++) {
            long together = 0;
            for (int account = 0; account < 6; account++) {
                together += x.entry(k, 10 + account);
            }
            is("ENTRY " + k + " together", together, 0);
        }
        long together = 0;
        for (int account = 0; account < 6; account++) {
            together += x.account(account);
        }
        is("all ACCOUNTS together", together, 0);
    }

    private static void owedAndUsed() {
        says("Each LEASE has its OWED, its USED (both 0 or more); account OWED is less by all OWED, account USED is all USED.");
        LeaseLedger x = Check.told(Twin.RICH);
        int deeds = 0;
        for (int i = 0; i < 40; i++) {
            switch (i % 5) {
                case 0: x.part(1, 300); break;
                case 1: x.rate(0, i * 5000); break;
                case 2: x.down(2, Math.max(1, x.amount(2, 1) / 2)); break;
                case 3: x.become(500 + i * 37); break;
                default: x.go(1); break;
            }
            long owed = 0;
            long used = 0;
            for (int lease = 0; lease < 4; lease++) {
                Sentences.holds("both are 0 or more", x.amount(lease, 0) >= 0 && x.amount(lease, 1) >= 0);
                owed += x.amount(lease, 0);
                used += x.amount(lease, 1);
            }
            is("account OWED", x.account(1), -owed);
            is("account USED", x.account(2), used);
            deeds += owed > 0 ? 1 : 0;
        }
        Sentences.holds("something was OWED all along", deeds > 30);
    }

    private static void runs() {
        says("A PERIOD goes by, LEASE by LEASE, of those that RUN (begin in it, or have begun; not ENDED):");
        LeaseLedger x = Check.told("lease a 2 2 0;pay a 1 2 5;lease b 0 1 0;lease c 1 3 0;pay c 1 3 7;");
        x.go(1);
        is("PERIOD 0, only b begins", x.count(4), 2);
        entry(x, 0, 1, 0, 1);
        entry(x, 1, 0, 0, 1);
        x.go(1);
        is("PERIOD 1, b is ENDED, c begins", x.count(4), 4);
        entry(x, 0, 1, 1, 2);
        entry(x, 1, 0, 1, 2);
        x.go(1);
        is("PERIOD 2, a begins, then c goes on", x.count(4), 7);
        entry(x, 0, 1, 2, 2);
        entry(x, 1, 1, 2, 0);
        entry(x, 2, 0, 2, 0);
        x.end(2);
        x.go(1);
        is("PERIOD 3, c is ENDED by call", x.count(4), 9);
        entry(x, 0, 1, 3, 0);
        x.go(1);
        is("PERIOD 4, none", x.count(4), 9);
    }

    private static void begins() {
        says("(1) begins it: OWED is WORTH of all by RATE; USED is that and fee; ENTRY 0: USED more, OWED less, CASH less fee. Its BASE is the INDEX of the PERIOD.");
        LeaseLedger x = Check.told("index 0 500;index 1 2000;" + PLAIN + "fee a 99999;lease b 1 2 0;pay b 1 2 3;");
        x.go(2);
        entry(x, 4, 0, 0, 0, -99999, -1909, 101908, 0, 0, 0);
        entry(x, 1, 0, 1, 1, 0, -6, 6, 0, 0, 0);
        is("OWED as it began", x.moved(0, 0), 1909);
        is("BASE of the first", Check.lease(x, 0, 5), 500);
        is("BASE of the other", Check.lease(x, 1, 5), 2000);
        LeaseLedger y = begun("lease a 0 1 0;");
        entry(y, 1, 0, 0, 0, 0, 0, 0, 0, 0, 0);
    }

    private static void indexedWhen() {
        says("(2) else, if it is tied and the INDEX of the PERIOD is another one than that by which it was INDEXED last (BASE at first): it is INDEXED, then RE-MEASURED.");
        LeaseLedger x = begun("lease t 0 9 0;pay t 1 9 1000;tied t;lease u 0 9 0;pay u 1 9 1000;");
        is("in the PERIOD in which it begins it isn't", x.latest(0, 2), -2);
        x.become(1001);
        x.become(1000);
        x.go(1);
        is("as BASE again when it goes by", x.latest(0, 2), -2);
        x.become(1001);
        is("become() alone", x.due(0, 3), 1000);
        x.go(1);
        is("one more", x.latest(0, 2), 2);
        is("DUE", x.due(0, 3), 1001);
        is("of one that isn't tied", x.due(1, 3), 1000);
        is("INDEXED last", Check.lease(x, 0, 8), 1001);
        x.go(1);
        is("not again by the same", x.latest(0, 2), 2);
        x.become(999);
        x.go(1);
        is("one less", x.due(0, 9), 999);
        x.become(1000);
        x.go(1);
        is("BASE is another one now", x.latest(0, 2), 5);
        is("DUE", x.due(0, 9), 1000);
        is("of one that isn't tied", x.latest(1, 2), -2);
        is("the index by which that was INDEXED last", Check.lease(x, 1, 8), 1000);
    }

    private static void indexed() {
        says("INDEXED: DUE of all that is left becomes its SETTING times the INDEX of the PERIOD (the next one to go by) by BASE, downwards. SETTING of an own period: TOLD, or as 3 says.");
        LeaseLedger x = begun("lease t 0 5 0;pay t 1 3 1;pay t 4 4 999;pay t 5 5 3;tied t;");
        x.become(1999);
        x.go(1);
        is("gone by", x.due(0, 1), 1);
        is("this one: 1.999", x.due(0, 2), 1);
        is("1997.001", x.due(0, 4), 1997);
        is("5.997", x.due(0, 5), 5);
        x.become(2000);
        x.go(1);
        is("the one ahead has gone by", x.due(0, 2), 1);
        is("2 sharp", x.due(0, 3), 2);
        x.become(500);
        x.go(1);
        is("499.5", x.due(0, 4), 499);
        is("1.5", x.due(0, 5), 1);
        LeaseLedger y = Check.told("lease t 0 3 0;pay t 1 3 1000;tied t;index 0 2000;index 1 1999;index 2 500;");
        y.go(2);
        is("by BASE 2000: 999.5", y.due(0, 3), 999);
        y.go(1);
        is("250", y.due(0, 3), 250);
    }

    private static void paidAtTheEnd() {
        says("(3) Paid at the end: INTEREST is OWED times RATE by 1000000, ROUNDED, and what DUE is above OWED and that, if it is; OWED is more by INTEREST, less by DUE;");
        // OWED 5, 1 more is 6: DUE 6 takes it all.
        LeaseLedger x = begun("lease a 0 2 100000;pay a 1 1 6;");
        entry(x, 0, 1, 0, 0, -6, 5, -2, 1, 2, 0);
        is("OWED", x.amount(0, 0), 0);
        // OWED 18, 3.42 more is 21: DUE 22 is one above.
        LeaseLedger y = begun("lease a 0 2 190000;pay a 1 1 22;");
        entry(y, 1, 0, 0, 0, 0, -18, 18, 0, 0, 0);
        entry(y, 0, 1, 0, 0, -22, 18, -9, 4, 9, 0);
        is("OWED", y.amount(0, 0), 0);
        // OWED 3, 0.6 more is 4: DUE 3 leaves one.
        LeaseLedger z = begun("lease a 0 2 200000;pay a 1 1 3;");
        entry(z, 0, 1, 0, 0, -3, 2, -1, 1, 1, 0);
        is("OWED", z.amount(0, 0), 1);
    }

    private static void lastAtTheEnd() {
        says("in the last own period INTEREST is DUE less OWED (below 0 it may be), OWED 0.");
        LeaseLedger z = begun("lease a 0 2 200000;pay a 1 1 3;");
        z.go(1);
        entry(z, 0, 1, 1, 0, 0, 1, -2, -1, 2, 0);
        is("OWED", z.amount(0, 0), 0);
        LeaseLedger x = begun(PLAIN);
        x.go(1);
        entry(x, 0, 1, 1, 0, -1100, 1000, -955, 100, 955, 0);
        is("OWED", x.amount(0, 0), 0);
        // TERM 1: the first one is the last one. 1000 by 1.2 is 833.
        LeaseLedger y = begun("lease a 0 1 200000;pay a 1 1 1000;");
        entry(y, 0, 1, 0, 0, -1000, 833, -833, 167, 833, 0);
        is("OWED", y.amount(0, 0), 0);
    }

    private static void paidEarly() {
        says("early: OWED is less by DUE, 0 at least; then more by (OWED times RATE by 1000000, ROUNDED),");
        // 1000 and 909; 909 is left, 90.9 more.
        LeaseLedger x = begun("lease a 0 2 100000;pay a 1 2 1000;early a;");
        entry(x, 0, 1, 0, 0, -1000, 909, -954, 91, 954, 0);
        is("OWED", x.amount(0, 0), 1000);
        // 22 by 1.19 is 18; 3.42 more is 21; DUE 22 is above that by one.
        LeaseLedger y = begun("lease a 0 3 190000;pay a 2 2 22;early a;");
        entry(y, 0, 1, 0, 0, 0, -3, -6, 3, 6, 0);
        is("OWED", y.amount(0, 0), 21);
        y.go(1);
        entry(y, 0, 1, 1, 0, -22, 21, -6, 1, 6, 0);
        is("OWED is 0 at least", y.amount(0, 0), 0);
        // All that is OWED is DUE: 0 sharp, and nothing grows on it.
        LeaseLedger z = begun("lease a 0 2 200000;pay a 1 1 7;early a;");
        entry(z, 0, 1, 0, 0, -7, 7, -3, 0, 3, 0);
        is("OWED", z.amount(0, 0), 0);
    }

    private static void lastEarly() {
        says("in the last own period 0; INTEREST is OWED as it is then, less OWED as it was, and DUE.");
        // 3 by 1.2 is 3; 0.6 more is 4; the last DUE is 3, one is left and goes.
        LeaseLedger x = begun("lease a 0 2 200000;pay a 2 2 3;early a;");
        is("OWED", x.amount(0, 0), 4);
        x.go(1);
        entry(x, 0, 1, 1, 0, -3, 4, -2, -1, 2, 0);
        is("OWED then", x.amount(0, 0), 0);
        LeaseLedger y = begun("lease a 0 1 200000;pay a 1 1 3;early a;");
        entry(y, 0, 1, 0, 0, -3, 3, -3, 0, 3, 0);
        is("OWED then", y.amount(0, 0), 0);
        // The last DUE is above OWED: 22 against 21.
        LeaseLedger z = begun("lease a 0 2 190000;pay a 2 2 22;early a;");
        z.go(1);
        entry(z, 0, 1, 1, 0, -22, 21, -9, 1, 9, 0);
        is("OWED then", z.amount(0, 0), 0);
    }

    private static void writtenOff() {
        says("WRITTEN OFF: USED by how many own periods are left with this one, downwards.");
        LeaseLedger x = begun("lease a 0 4 0;pay a 4 4 7;");
        is("7 by 4", x.entry(0, 14), 1);
        x.go(1);
        is("6 by 3", x.entry(0, 14), 2);
        x.go(1);
        is("4 by 2", x.entry(0, 14), 2);
        x.go(1);
        is("2 by 1", x.entry(0, 14), 2);
        is("USED", x.amount(0, 1), 0);
        is("0.75", begun("lease a 0 4 0;pay a 4 4 3;").entry(0, 14), 0);
        is("1 sharp", begun("lease a 0 4 0;pay a 4 4 4;").entry(0, 14), 1);
    }

    private static void entryOne() {
        says("ENTRY 1: INTEREST more, CASH less DUE, WRITTEN OFF more; OWED, USED as they change (one ENTRY).");
        LeaseLedger x = begun(PLAIN);
        is("ENTRIES", x.count(4), 2);
        entry(x, 0, 1, 0, 0, -1100, 909, -954, 191, 954, 0);
        LeaseLedger y = begun("lease a 0 2 0;");
        is("also if nothing changes", y.count(4), 2);
        entry(y, 0, 1, 0, 0, 0, 0, 0, 0, 0, 0);
    }

    private static void ended() {
        says("Behind its last own period it is ENDED.");
        LeaseLedger x = Check.told("lease a 0 1 0;lease b 0 2 0;lease c 1 1 0;");
        long[][] stages = {{0, 0, 0}, {2, 1, 0}, {2, 2, 2}};
        for (int period = 0; period < 3; period++) {
            for (int lease = 0; lease < 3; lease++) {
                is("PERIOD " + period + ", lease(" + lease + ", 3)", Check.lease(x, lease, 3), stages[period][lease]);
            }
            x.go(1);
        }
        is("no more ENTRIES", x.count(4), 3 + 4);
    }

    private static void remeasured() {
        says("RE-MEASURED: OWED becomes WORTH of what is left by RATE; USED is as much more or less, 0 at least;");
        LeaseLedger x = begun(PLAIN);
        is("rate(0, 200000), 1100 by 1.2", x.rate(0, 200000), -83);
        is("OWED", x.amount(0, 0), 917);
        is("USED", x.amount(0, 1), 872);
        is("rate(0, 0)", x.rate(0, 0), 183);
        is("OWED", x.amount(0, 0), 1100);
        is("USED", x.amount(0, 1), 1055);
        entry(x, 0, 2, 1, 0, 0, -183, 183, 0, 0, 0);
        entry(x, 1, 2, 1, 0, 0, 83, -83, 0, 0, 0);
        says("ENTRY 2, also if nothing changes.");
        is("rate(0, 0) again", x.rate(0, 0), 0);
        is("ENTRIES", x.count(4), 5);
        entry(x, 0, 2, 1, 0, 0, 0, 0, 0, 0, 0);
    }

    private static void usedNotLess() {
        says("what USED can't be less is GAIN (less on account 5).");
        long[][] used = {{84, 1, 83, 0}, {83, 0, 83, 0}, {82, 0, 82, 1}, {1, 0, 1, 82}, {0, 0, 0, 83}};
        for (long[] u : used) {
            LeaseLedger x = begun(PLAIN);
            is("down to " + u[0], x.down(0, 955 - u[0]), u[0]);
            is("rate(0, 200000)", x.rate(0, 200000), -83);
            is("USED of " + u[0], x.amount(0, 1), u[1]);
            entry(x, 0, 2, 1, 0, 0, 83, -u[2], 0, 0, -u[3]);
            is("account GAIN", x.account(5), 955 - u[0] - u[3]);
            // What it could not be less is not made up for when OWED is more again.
            x.rate(0, 100000);
            is("USED then", x.amount(0, 1), u[1] + 83);
        }
    }

    private static void left() {
        says("(What is left: own periods from the next one that goes by on.)");
        LeaseLedger x = begun("lease a 0 3 0;pay a 1 1 1;pay a 2 2 10;pay a 3 3 100;");
        is("lease(0, 4)", Check.lease(x, 0, 4), 2);
        x.rate(0, 0);
        is("OWED", x.amount(0, 0), 110);
        x.go(1);
        is("lease(0, 4)", Check.lease(x, 0, 4), 1);
        x.rate(0, 0);
        is("OWED", x.amount(0, 0), 100);
        is("putOff(0, 2, 3)", x.putOff(0, 2, 3), Check.NO);
    }

    /** What is drawn, reckoned exactly. */
    static int[] drawn(long seed, int n, int modulo) {
        BigInteger last = BigInteger.valueOf(seed);
        int[] draws = new int[n];
        for (int i = 0; i < n; i++) {
            last = last.multiply(BigInteger.valueOf(1103515245)).add(BigInteger.valueOf(12345)).mod(BigInteger.TWO.pow(31));
            draws[i] = last.shiftRight(16).mod(BigInteger.valueOf(modulo)).intValueExact();
        }
        return draws;
    }
}
