/** Section 2 of the document, a test for each sentence that names a bound: what is owed, tempers, quarters, weddings. */
public final class DebtEdgeTest {
    private static final int NONE = DebtDowry.NONE;
    private static final int NOT = DebtDowry.NOT;

    private static final int COLD = 0;
    private static final int CIVIL = 1;
    private static final int SOUR = 2;
    private static final int FAILED = 3;

    public static void main(String[] args) {
        owedAtMostByBorrowing();
        owedAtMostByInterest();
        owedAtMostByWedding();
        owedAtMostInAll();
        purseAtMost();
        purseDownToNothing();
        coldBelowLow();
        civilFromLowToHigh();
        sourAboveHigh();
        coldByInsultWhateverIsOwed();
        insultByMoreThanSoMuch();
        insultOfNothingAndAll();
        insultSinceTheLatestQuarter();
        standingBelowZero();
        standingAtMost();
        whoFailedIsNobodys();
        interestIsCut();
        noInterestOfNothing();
        failsAboveThePurse();
        failsByTheSourAlone();
        failsByWhatIsSoThen();
        failsAllAtOnce();
        failsOnce();
        quartersAreCounted();
        wedOwesBoth();
        wedManOwesNothing();
        wedInsultsAreHers();
        halfIsCut();
        halfOfTheMost();
        divorcedInsultsAreBoths();
        wedAgain();
        deedsOfTheseTwoAlone();
        Due.end();
    }

    /** "9999 at most; what is above is forgiven": BORROWED */
    private static void owedAtMostByBorrowing() {
        for (int owed = 8999; owed <= 9002; owed++) {
            DebtDowry x = Edge.rich();
            x.pay(0, 0, 9999 - owed);
            Due.is("owed " + owed, x.owes(0, 0), owed);
            Due.is("borrowed 999 more", x.borrow(0, 0, 999), Math.min(9999, owed + 999));
            Due.is("owed then", x.owes(0, 0), Math.min(9999, owed + 999));
            Due.is("as much less in the purse", x.creditor(0, 0), 9000);
        }
        DebtDowry x = Edge.rich();
        Due.is("one coin above", x.borrow(0, 0, 1), 9999);
        Due.is("the coin is gone from the purse", x.creditor(0, 0), 9998);
    }

    /** "9999 at most; what is above is forgiven": INTEREST */
    private static void owedAtMostByInterest() {
        // 7692 and 2307 are 9999.
        int[] owed = {7691, 7692, 7693, 7694, 9998, 9999};
        int[] due = {9998, 9999, 9999, 9999, 9999, 9999};
        for (int i = 0; i < owed.length; i++) {
            DebtDowry x = Edge.rich();
            if (owed[i] < 9999) {
                x.pay(0, 0, 9999 - owed[i]);
            }
            x.quarter(1);
            Due.is("of " + owed[i] + " behind a quarter", x.owes(0, 0), due[i]);
            Due.is("he did not fail", x.told(9), 0);
        }
    }

    /** "9999 at most; what is above is forgiven": WED */
    private static void owedAtMostByWedding() {
        for (int his = 998; his <= 1001; his++) {
            DebtDowry x = Edge.rich();
            x.pay(0, 0, 999);
            x.borrow(1, 0, 500);
            x.borrow(1, 0, his - 500);
            Due.is("joined with " + his, x.joined(0, 1), 9);
            Due.is("wed with " + his, x.wed(0, 1), 9);
            Due.is("9000 and " + his, x.owes(0, 0), Math.min(9999, 9000 + his));
            Due.is("he owes nothing", x.owes(1, 0), 0);
        }
    }

    /** The most is one CREDITOR's and one PERSON's: together more may be owed. */
    private static void owedAtMostInAll() {
        DebtDowry x = Edge.rich();
        x.borrow(1, 0, 999);
        Due.is("in all", x.told(10), 10998);
        DebtDowry y = Due.townOf("i0 0;c0 1 999 1;c0 1 999 1;c0 1 999 1;c0 1 999 1;g999,999,999,999;m999,999,999,999;");
        Due.is("together", y.person(0, 2), 3996);
        Due.is("in all of two", y.told(10), 7992);
    }

    /** "as much more in the PURSE (9999 at most)" */
    private static void purseAtMost() {
        for (int coins = 1; coins <= 4; coins++) {
            DebtDowry x = Edge.rich();
            x.borrow(1, 0, 3);
            Due.is("the purse ahead", x.creditor(0, 0), 9996);
            x.pay(0, 0, coins);
            Due.is("the purse behind " + coins, x.creditor(0, 0), Math.min(9999, 9996 + coins));
            Due.is("what is owed is less by all of it", x.owes(0, 0), 9999 - coins);
        }
        DebtDowry y = Edge.rich();
        Due.is("all at once", y.pay(0, 0, 9999), 0);
        Due.is("a full purse stays so", y.creditor(0, 0), 9999);
    }

    /** "as much less in the PURSE", down to nothing */
    private static void purseDownToNothing() {
        DebtDowry x = Due.townOf("i0 0;c2 1 999 1;c999 1 999 1;c0 1 999 1;g0,0,0;");
        Due.is("three of two", x.borrow(0, 0, 3), NOT);
        Due.is("one of two", x.borrow(0, 0, 1), 1);
        Due.is("two of one", x.borrow(0, 0, 2), NOT);
        Due.is("one of one", x.borrow(0, 0, 1), 2);
        Due.is("nothing is left", x.creditor(0, 0), 0);
        Due.is("one of nothing", x.borrow(0, 0, 1), NOT);
        Due.is("all of the most", x.borrow(0, 1, 999), 999);
        Due.is("nothing of the most is left", x.creditor(1, 0), 0);
        Due.is("of an empty purse", x.borrow(0, 2, 1), NOT);
        Due.is("paid back", x.pay(0, 0, 1), 1);
        Due.is("there is one again", x.borrow(0, 0, 1), 2);
    }

    private static void temperIs(int low, int high, int owed, int due) {
        DebtDowry x = Due.townOf("i0 0;c999 " + low + " " + high + " 7;g" + owed + ";");
        String of = "of " + owed + " by " + low + " to " + high;
        Due.is("temper " + of, x.temper(0, 0), due);
        Due.is("standing " + of, x.person(0, 3), due == CIVIL ? 7 : due == SOUR ? -1 : 0);
        Due.is("the civil " + of, x.creditor(0, 4), due == CIVIL ? 1 : 0);
        Due.is("the sour " + of, x.creditor(0, 5), due == SOUR ? 1 : 0);
    }

    /** "COLD to one (0) who .. owes him less than A" */
    private static void coldBelowLow() {
        temperIs(1, 1, 0, COLD);
        temperIs(2, 5, 1, COLD);
        temperIs(2, 5, 0, COLD);
        temperIs(999, 999, 998, COLD);
    }

    /** "else CIVIL (1), who owes A to B" */
    private static void civilFromLowToHigh() {
        temperIs(1, 1, 1, CIVIL);
        temperIs(2, 5, 2, CIVIL);
        temperIs(2, 5, 3, CIVIL);
        temperIs(2, 5, 5, CIVIL);
        temperIs(999, 999, 999, CIVIL);
        temperIs(1, 999, 999, CIVIL);
        temperIs(1, 999, 1, CIVIL);
    }

    /** "SOUR (2), who owes more" */
    private static void sourAboveHigh() {
        temperIs(1, 1, 2, SOUR);
        temperIs(2, 5, 6, SOUR);
        temperIs(2, 5, 999, SOUR);
        temperIs(1, 998, 999, SOUR);
        DebtDowry x = Due.townOf("i0 0;c999 1 999 1;g999;");
        x.borrow(0, 0, 1);
        Due.is("of 1000", x.temper(0, 0), SOUR);
        Due.is("of 9999", Edge.rich().temper(0, 0), SOUR);
    }

    /** "who has INSULTED him since the latest QUARTER (whatever is owed)" */
    private static void coldByInsultWhateverIsOwed() {
        int[] owed = {0, 1, 9, 10, 15, 20, 21, 98};
        for (int left : owed) {
            DebtDowry x = Due.townOf("i0 0;c999 10 20 7;g99;m15;");
            x.pay(0, 0, 99 - left);
            Due.is("insulted, " + left + " owed", x.temper(0, 0), COLD);
            Due.is("standing, " + left + " owed", x.person(0, 3), 0);
            Due.is("the civil, " + left + " owed", x.creditor(0, 4), 2);
            Due.is("the sour, " + left + " owed", x.creditor(0, 5), 0);
            x.borrow(0, 0, 1);
            Due.is("borrowing mends nothing", x.temper(0, 0), COLD);
            Due.is("to another he is civil", x.temper(1, 0), CIVIL);
        }
    }

    /** "paid more than M of a hundred of what one owes him at once is INSULTED" */
    private static void insultByMoreThanSoMuch() {
        for (int m : new int[] {0, 1, 2, 33, 49, 50, 51, 66, 99, 100}) {
            for (int owed : new int[] {1, 2, 3, 7, 50, 99, 100, 101, 200, 998, 999}) {
                int most = m * owed / 100;
                String of = " of " + owed + " by " + m;
                if (most >= 1) {
                    Due.is(most + of, insultsBy(m, owed, most), 0);
                }
                if (most + 1 <= owed) {
                    Due.is(most + 1 + of, insultsBy(m, owed, most + 1), 1);
                }
            }
        }
        DebtDowry x = Due.townOf("i0 50;c9 1 999 1;g100;");
        x.pay(0, 0, 50);
        Due.is("half, at once", x.person(0, 4), 0);
        x.pay(0, 0, 25);
        Due.is("half of the rest: only what is paid at once counts", x.person(0, 4), 0);
        x.pay(0, 0, 13);
        Due.is("more than half of the rest", x.person(0, 4), 1);
        x.pay(0, 0, 1);
        Due.is("a small sum does not undo it", x.person(0, 4), 1);
    }

    private static int insultsBy(int m, int owed, int coins) {
        DebtDowry x = Due.townOf("i0 " + m + ";c9 1 999 1;g" + owed + ";");
        Due.is("paid " + coins + " of " + owed, x.pay(0, 0, coins), owed - coins);
        return x.person(0, 4);
    }

    /** M from 0 .. 100: by 0 each coin insults, by 100 none does. */
    private static void insultOfNothingAndAll() {
        Due.is("a coin of 999 by 0", insultsBy(0, 999, 1), 1);
        Due.is("a coin of one by 0", insultsBy(0, 1, 1), 1);
        Due.is("all of 999 by 100", insultsBy(100, 999, 999), 0);
        Due.is("all of one by 100", insultsBy(100, 1, 1), 0);
        Due.is("all of 999 by 99", insultsBy(99, 999, 999), 1);
        DebtDowry most = Edge.rich();
        most.pay(0, 0, 9999);
        Due.is("all of 9999 by 100", most.person(0, 4), 0);
    }

    /** "since the latest QUARTER", "INSULTS are forgotten" */
    private static void insultSinceTheLatestQuarter() {
        DebtDowry x = Due.townOf("i0 0;c999 1 99 3;c999 1 99 4;c999 1 99 5;c999 1 99 6;g9,9,9,9;m9,9,9,9;");
        for (int c = 0; c < 4; c++) {
            x.pay(0, c, 1);
            x.pay(1, 3 - c, 1);
        }
        Due.is("hers", x.person(0, 4), 15);
        Due.is("his", x.person(1, 4), 15);
        Due.is("her standing", x.person(0, 3), 0);
        x.quarter(1);
        Due.is("hers are forgotten", x.person(0, 4), 0);
        Due.is("his are forgotten", x.person(1, 4), 0);
        Due.is("her standing then", x.person(0, 3), 18);
        x.pay(0, 2, 1);
        Due.is("anew", x.person(0, 4), 4);
        Due.is("her standing then", x.person(0, 3), 13);
    }

    /** "less 1 for each who is SOUR": it may be below 0 */
    private static void standingBelowZero() {
        String creditors = "i0 0;c99 1 2 9;c99 1 2 8;c99 1 2 7;c99 1 2 6;";
        String[] sums = {"3,3,3,3", "3,3,3,0", "3,0,0,0", "0,0,0,0", "0,0,0,2", "3,3,3,2", "999,999,999,999"};
        int[] due = {-4, -3, -1, 0, 6, 3, -4};
        for (int i = 0; i < due.length; i++) {
            String owed = sums[i];
            DebtDowry x = Due.townOf(creditors + "g" + owed + ";m0,0,0,0;");
            Due.is("standing by " + owed, x.person(0, 3), due[i]);
            Due.is("joined by " + owed, x.joined(0, 1), due[i] + 10);
            Due.is("wed by " + owed, x.wed(0, 1), due[i] + 10);
        }
    }

    /** "G of all CREDITORS who are CIVIL to him, together" */
    private static void standingAtMost() {
        DebtDowry x = Due.townOf("i0 0;c99 1 2 9;c99 1 2 9;c99 1 2 9;c99 1 2 9;g1,2,1,2;m0,0,0,0;");
        Due.is("of all four", x.person(0, 3), 36);
        Due.is("joined", x.joined(0, 1), 46);
        Due.is("wed", x.wed(0, 1), 46);
        DebtDowry y = Due.townOf("i0 0;c99 1 2 1;g1;");
        Due.is("of one", y.person(0, 3), 1);
    }

    /** "A CREDITOR who FAILED is nobody's: nobody owes him anything, he is not CIVIL, nor COLD, nor SOUR (3)" */
    private static void whoFailedIsNobodys() {
        DebtDowry x = Due.townOf("i0 50;c5 10 20 9;c5 10 20 4;g0,10;m15,15;g30,20;m21,0;");
        Due.is("one fails", x.quarter(1), 1);
        for (int p = 0; p < 4; p++) {
            Due.is("person " + p + " owes him", x.owes(p, 0), 0);
            Due.is("his temper to " + p, x.temper(p, 0), FAILED);
            Due.is("he is not insulted by " + p, x.person(p, 4), 0);
            Due.is("nobody can pay him: " + p, x.pay(p, 0, 1), NOT);
            Due.is("nobody can borrow of him: " + p, x.borrow(p, 0, 1), NOT);
        }
        Due.is("nobody is he civil to", x.creditor(0, 4), 0);
        Due.is("nobody is he sour to", x.creditor(0, 5), 0);
        int[] standing = {4, 4, 4, 0};
        for (int p = 0; p < 4; p++) {
            Due.is("the standing of " + p, x.person(p, 3), standing[p]);
        }
        Due.is("in all", x.told(10), 45);
        Due.is("the other did not", x.told(9), 1);
        x.quarter(20);
        Due.is("nothing grows", x.owes(2, 0), 0);
        Due.is("he stays so", x.temper(2, 0), FAILED);
        Due.is("behind a wedding, too", x.wed(2, 1), 9);
        Due.is("her temper", x.temper(2, 0), FAILED);
        x.divorce(2);
        Due.is("behind a divorce, too", x.temper(1, 0), FAILED);
    }

    /** "more by INTEREST of it (times I / 100, cut)" */
    private static void interestIsCut() {
        for (int i : new int[] {0, 1, 7, 10, 29, 30}) {
            for (int owed : new int[] {0, 1, 3, 4, 9, 10, 11, 19, 20, 33, 34, 99, 100, 101, 142, 143, 199, 200, 998, 999}) {
                DebtDowry x = Due.townOf("i" + i + " 0;c999 1 999 1;c999 1 999 1;g0," + owed + ";");
                x.quarter(1);
                boolean fails = owed + owed * i / 100 > 999;
                Due.is(owed + " by " + i, x.owes(0, 1), fails ? 0 : owed + owed * i / 100);
                Due.is(owed + " by " + i + ": who fails", x.told(9), fails ? 2 : 0);
            }
        }
        DebtDowry x = Due.townOf("i10 0;c999 1 999 1;g19;");
        x.quarter(2);
        Due.is("cut each quarter", x.owes(0, 0), 22);
    }

    /** "each who owes": of nothing nothing grows, and no purse changes. */
    private static void noInterestOfNothing() {
        DebtDowry x = Due.townOf("i30 0;c7 1 999 1;g0;");
        x.quarter(20);
        Due.is("of nothing", x.owes(0, 0), 0);
        Due.is("the purse", x.creditor(0, 0), 7);
        DebtDowry y = Due.townOf("i0 0;c7 1 999 1;g999;");
        y.quarter(20);
        Due.is("by nothing", y.owes(0, 0), 999);
        DebtDowry z = Due.townOf("i30 0;c7 1 999 1;g3;m4;");
        z.quarter(1);
        Due.is("three by 30 of a hundred", z.owes(0, 0), 3);
        Due.is("four by 30 of a hundred", z.owes(1, 0), 5);
    }

    /** "what is owed by those to whom he is SOUR is above his PURSE" */
    private static void failsAboveThePurse() {
        for (int purse = 20; purse <= 23; purse++) {
            DebtDowry x = Due.townOf("i0 0;c" + purse + " 10 20 1;g22;");
            Due.is("failing by a purse of " + purse, x.failing(), purse < 22 ? 1 : 0);
            Due.is("22 by a purse of " + purse, x.quarter(1), purse < 22 ? 1 : 0);
            Due.is("owed then", x.owes(0, 0), purse < 22 ? 0 : 22);
        }
        for (int purse = 63; purse <= 66; purse++) {
            DebtDowry x = Due.townOf("i0 0;c" + purse + " 10 20 1;g21;m21;g22;");
            Due.is("64 of three by a purse of " + purse, x.quarter(1), purse < 64 ? 1 : 0);
        }
        DebtDowry nothing = Due.townOf("i0 0;c0 1 1 1;c0 1 1 1;g1,2;");
        Due.is("a purse of nothing", nothing.quarter(1), 1);
        Due.is("the one who is sour", nothing.told(9), 2);
        DebtDowry most = Edge.rich();
        Due.is("9999 by a purse of 9999", most.quarter(1), 0);
        most.borrow(0, 0, 1);
        Due.is("9999 by a purse of 9998", most.quarter(1), 1);
        Due.is("nobody owes him then", most.told(10), 0);
    }

    /** "by those to whom he is SOUR": what the CIVIL and the COLD owe does not count */
    private static void failsByTheSourAlone() {
        DebtDowry civil = Due.townOf("i0 0;c0 10 20 1;g20;m20;g10;");
        Due.is("only civil ones", civil.quarter(1), 0);
        DebtDowry cold = Due.townOf("i0 0;c0 10 20 1;g9;m9;g9;");
        Due.is("only cold ones", cold.quarter(1), 0);
        DebtDowry mixed = Due.townOf("i0 0;c21 10 20 1;g20;m21;g9;");
        Due.is("the sour one owes no more than the purse", mixed.quarter(1), 0);
        DebtDowry others = Due.townOf("i0 0;c21 10 20 1;c99 10 20 1;g21,21;");
        Due.is("what is owed to another does not count", others.quarter(1), 0);
    }

    /** "INSULTS are forgotten; then ..", "(by what is so then ..)" */
    private static void failsByWhatIsSoThen() {
        DebtDowry grown = Due.townOf("i5 0;c20 10 20 1;g20;");
        Due.is("civil ahead", grown.temper(0, 0), CIVIL);
        Due.is("sour behind the interest", grown.quarter(1), 1);
        DebtDowry more = Due.townOf("i5 0;c21 10 15 1;g20;");
        Due.is("as much as the purse", more.quarter(1), 0);
        Due.is("more, by what has grown", more.quarter(1), 1);
        DebtDowry insulted = Due.townOf("i0 0;c0 10 20 1;g40;");
        insulted.pay(0, 0, 1);
        Due.is("cold ahead", insulted.temper(0, 0), COLD);
        Due.is("sour then", insulted.quarter(1), 1);
        DebtDowry filled = Due.townOf("i0 0;c10 10 20 1;g40;");
        filled.pay(0, 0, 15);
        Due.is("what was paid is in the purse", filled.quarter(1), 0);
    }

    /** "all at once" */
    private static void failsAllAtOnce() {
        DebtDowry x = Due.townOf("i0 0;c9 1 2 9;c9 1 2 9;c9 1 2 9;c9 1 2 9;g10,10,10,10;m0,1,2,0;");
        Due.is("failing()", x.failing(), 15);
        Due.is("all four", x.quarter(1), 4);
        Due.is("the set", x.told(9), 15);
        Due.is("in all", x.told(10), 0);
        Due.is("standing", x.person(1, 3), 0);
        DebtDowry y = Due.townOf("i0 0;c9 1 2 9;c10 1 2 9;c9 1 2 9;c10 1 2 9;g10,10,10,10;");
        Due.is("the first and the third", y.quarter(1), 2);
        Due.is("their set", y.told(9), 5);
    }

    /** "how many CREDITORS FAILED in these": who failed before does not again */
    private static void failsOnce() {
        DebtDowry x = Due.townOf("i10 0;c9 1 2 9;c10 1 2 9;c11 1 2 9;g10,10,10;");
        Due.is("in one quarter", x.quarter(1), 2);
        Due.is("which", x.told(9), 3);
        Due.is("in one more", x.quarter(1), 1);
        Due.is("then which", x.told(9), 7);
        Due.is("in twenty more", x.quarter(20), 0);
        DebtDowry y = Due.townOf("i10 0;c9 1 2 9;c10 1 2 9;c11 1 2 9;g10,10,10;");
        Due.is("in two", y.quarter(2), 3);
    }

    /** "QUARTERS are counted." */
    private static void quartersAreCounted() {
        DebtDowry x = Due.townOf("i0 0;c1 1 1 1;g1;m1;");
        Due.is("at first", x.told(6), 0);
        x.borrow(0, 0, 1);
        x.pay(0, 0, 1);
        x.wed(0, 1);
        x.divorce(0);
        Due.is("by no other deed", x.told(6), 0);
        x.quarter(1);
        Due.is("one", x.told(6), 1);
        x.quarter(20);
        Due.is("twenty more", x.told(6), 21);
        x.drift(20);
        Due.is("by draws, too", x.told(6), 41);
        x.run(20);
        x.failing();
        Due.is("not when tried", x.told(6), 41);
    }

    /** "what he owes she owes besides; he owes nothing" */
    private static void wedOwesBoth() {
        DebtDowry x = Due.townOf("i0 0;c9 1 99 1;c9 1 99 1;c9 1 99 1;c9 1 99 1;m1,0,3,4;g10,20,0,40;");
        Due.is("wed", x.wed(1, 0), 14);
        int[] hers = {11, 20, 3, 44};
        for (int c = 0; c < 4; c++) {
            Due.is("she owes " + c, x.owes(1, c), hers[c]);
            Due.is("he owes " + c, x.owes(0, c), 0);
        }
        Due.is("the purses stay", x.creditor(0, 0), 9);
        Due.is("to her", x.person(0, 1), 1);
        Due.is("to him", x.person(1, 1), 0);
    }

    /** "he owes nothing, while they are WED" */
    private static void wedManOwesNothing() {
        DebtDowry x = Due.townOf("i10 0;c999 1 99 1;g50;m50;");
        x.wed(0, 1);
        Due.is("he cannot borrow", x.borrow(1, 0, 1), NOT);
        Due.is("he cannot pay", x.pay(1, 0, 1), NOT);
        x.quarter(5);
        Due.is("nothing behind quarters", x.owes(1, 0), 0);
        Due.is("he is cold to him", x.temper(1, 0), COLD);
        Due.is("his standing", x.person(1, 3), 0);
        Due.is("she can borrow", x.borrow(0, 0, 1), x.owes(0, 0));
    }

    /** "INSULTS by him are hers." */
    private static void wedInsultsAreHers() {
        for (int hers = 0; hers < 4; hers++) {
            for (int his = 0; his < 4; his++) {
                DebtDowry x = Due.townOf("i0 0;c9 1 99 3;c9 1 99 5;g9,9;m9,9;");
                insult(x, 0, hers);
                insult(x, 1, his);
                int both = hers | his;
                int standing = (both & 1) == 0 ? 3 : 0;
                standing += (both & 2) == 0 ? 5 : 0;
                Due.is("joined by " + hers + " and " + his, x.joined(0, 1), standing + 10);
                Due.is("wed by " + hers + " and " + his, x.wed(0, 1), standing + 10);
                Due.is("hers by " + hers + " and " + his, x.person(0, 4), both);
                x.quarter(1);
                Due.is("forgotten", x.person(0, 4), 0);
                Due.is("her standing then", x.person(0, 3), 8);
            }
        }
    }

    private static void insult(DebtDowry x, int p, int set) {
        for (int c = 0; c < 2; c++) {
            if ((set >> c & 1) == 1) {
                x.pay(p, c, 1);
            }
        }
    }

    /** "of all that she owes, he owes the half (cut), she the rest" */
    private static void halfIsCut() {
        for (int owed : new int[] {0, 1, 2, 3, 4, 5, 98, 99, 998, 999}) {
            DebtDowry x = Due.townOf("i0 0;c9 1 99 1;c9 1 99 1;g" + owed + ",3;m0,0;");
            x.wed(0, 1);
            Due.is("divorced from " + owed, x.divorce(0), owed / 2 + 1);
            Due.is("he of " + owed, x.owes(1, 0), owed / 2);
            Due.is("she of " + owed, x.owes(0, 0), owed - owed / 2);
            Due.is("he of three", x.owes(1, 1), 1);
            Due.is("she of three", x.owes(0, 1), 2);
            Due.is("her man", x.person(0, 1), NONE);
            Due.is("his wife", x.person(1, 1), NONE);
        }
    }

    private static void halfOfTheMost() {
        DebtDowry x = Edge.rich();
        x.wed(0, 1);
        Due.is("half of 9999", x.divorce(0), 4999);
        Due.is("the rest of 9999", x.owes(0, 0), 5000);
    }

    /** "INSULTS are both's." */
    private static void divorcedInsultsAreBoths() {
        DebtDowry x = Due.townOf("i0 0;c9 1 99 3;c9 1 99 5;c9 1 99 7;g9,9,9;m9,9,9;");
        x.pay(0, 0, 1);
        x.pay(1, 1, 1);
        x.wed(0, 1);
        x.divorce(0);
        Due.is("hers", x.person(0, 4), 3);
        Due.is("his", x.person(1, 4), 3);
        Due.is("he is cold to him by hers", x.temper(1, 0), COLD);
        Due.is("he is cold to her by his", x.temper(0, 1), COLD);
        Due.is("her standing", x.person(0, 3), 7);
        Due.is("his standing", x.person(1, 3), 7);
        x.quarter(1);
        Due.is("hers are forgotten", x.person(0, 4), 0);
        Due.is("his are forgotten", x.person(1, 4), 0);
    }

    /** "a girl and a man, neither WED": who was divorced may wed again */
    private static void wedAgain() {
        DebtDowry x = Due.townOf("i0 0;c9 1 99 3;g8;m0;m2;g0;");
        x.wed(0, 1);
        Due.is("she is wed", x.wed(0, 2), NOT);
        Due.is("he is wed", x.wed(3, 1), NOT);
        Due.is("they are wed", x.wed(0, 1), NOT);
        Due.is("the others may", x.wed(3, 2), 13);
        Due.is("all are", x.told(8), 15);
        x.divorce(0);
        Due.is("two are", x.told(8), 12);
        Due.is("who is wed stays so", x.wed(0, 2), NOT);
        x.divorce(3);
        Due.is("to another", x.wed(0, 2), 13);
        Due.is("what both owe", x.owes(0, 0), 4 + 1);
        Due.is("her man", x.person(0, 1), 2);
    }

    private static int[] allOwed(DebtDowry x) {
        int[] owed = new int[32];
        for (int i = 0; i < owed.length; i++) {
            owed[i] = x.owes(i / 4, i % 4);
        }
        return owed;
    }

    private static void areOwed(String deed, DebtDowry x, int[] due) {
        int[] owed = allOwed(x);
        for (int i = 0; i < due.length; i++) {
            Due.is(deed + ": owes(" + i / 4 + ", " + i % 4 + ")", owed[i], due[i]);
        }
    }

    /** What others owe, or to others, stays as it is by a deed: in the fullest town, from the first to the last. */
    private static void deedsOfTheseTwoAlone() {
        int[][] pairs = {{0, 1}, {6, 7}, {2, 5}, {4, 3}};
        for (int[] pair : pairs) {
            int girl = pair[0];
            int man = pair[1];
            DebtDowry x = Due.townOf("i0 100;c99 1 99 1;c99 1 99 1;c99 1 99 1;c99 1 99 1;g1,2,3,4;m5,6,7,8;"
                + "g9,10,11,12;m13,14,15,16;g17,18,19,20;m21,22,23,24;g25,26,27,28;m29,30,31,32;");
            int[] due = allOwed(x);
            x.borrow(girl, 3, 7);
            due[girl * 4 + 3] += 7;
            x.pay(man, 0, 2);
            due[man * 4] -= 2;
            areOwed("borrowed by " + girl + ", paid by " + man, x, due);
            x.wed(girl, man);
            for (int c = 0; c < 4; c++) {
                due[girl * 4 + c] += due[man * 4 + c];
                due[man * 4 + c] = 0;
            }
            areOwed("wed: " + girl + " and " + man, x, due);
            x.divorce(girl);
            for (int c = 0; c < 4; c++) {
                due[man * 4 + c] = due[girl * 4 + c] / 2;
                due[girl * 4 + c] -= due[man * 4 + c];
            }
            areOwed("divorced: " + girl + " and " + man, x, due);
            int[] purses = {101, 99, 99, 92};
            for (int c = 0; c < 4; c++) {
                Due.is("the purse of " + c, x.creditor(c, 0), purses[c]);
            }
        }
    }
}
