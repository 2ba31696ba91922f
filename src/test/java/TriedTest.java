/** Promises 17 to 24: what is tried from now, by which nothing changes. */
public final class TriedTest {
    private static final int NONE = DebtDowry.NONE;
    private static final int UNKNOWN = DebtDowry.UNKNOWN;
    private static final int OUTSIDE = DebtDowry.OUTSIDE;
    private static final int NOT = DebtDowry.NOT;

    private static final String TOWN = "i10 50;c100 10 50 4;c30 20 40 7;g20,25;m60,0;g0,0;m10,45;";

    public static void main(String[] args) {
        joined();
        leastRefused();
        leastOfLikeOnes();
        leastOnlyOfTheCold();
        planRefused();
        planKnown();
        planOfLikeOnes();
        planOfTheMost();
        planByTrial();
        matchesKnown();
        matchesOfLikeOnes();
        failingAndRun();
        creditKnown();
        rumoursKnown();
        nothingChanges();
        Due.end();
    }

    private static void joined() {
        DebtDowry x = Due.townOf(TOWN);
        Due.is("joined(0, 1)", x.joined(0, 1), 16);
        Due.is("joined(0, 3)", x.joined(0, 3), 13);
        Due.is("joined(2, 1)", x.joined(2, 1), 9);
        Due.is("joined(2, 3)", x.joined(2, 3), 13);
        Due.is("turned round", x.joined(1, 0), UNKNOWN);
        Due.is("two girls", x.joined(0, 2), UNKNOWN);
        Due.is("nobody", x.joined(0, 4), UNKNOWN);
        Due.is("below all", x.joined(-1, 1), UNKNOWN);
        x.wed(0, 1);
        Due.is("she is wed", x.joined(0, 3), NOT);
        Due.is("he is wed", x.joined(2, 1), NOT);
        Due.is("to each other", x.joined(0, 1), NOT);
        Due.is("no man at all", x.joined(0, 2), UNKNOWN);
        x.quarter(1);
        Due.is("of those who did not fail", x.joined(2, 3), 14);
    }

    private static void leastRefused() {
        DebtDowry x = Due.townOf(TOWN);
        Due.is("least(4, 0, 0)", x.least(4, 0, 0), UNKNOWN);
        Due.is("least(-1, 1, 0)", x.least(-1, 1, 0), UNKNOWN);
        Due.is("least(0, 0, 0)", x.least(0, 0, 0), OUTSIDE);
        Due.is("least(0, 37, 0)", x.least(0, 37, 0), OUTSIDE);
        Due.is("least(0, 36, 0)", x.least(0, 36, 0), NONE);
        Due.is("least(0, 36, 1)", x.least(0, 36, 1), NONE);
        Due.is("least(0, 1, 2)", x.least(0, 1, 2), OUTSIDE);
        Due.is("least(0, 1, -1)", x.least(0, 1, -1), OUTSIDE);
        x.wed(0, 1);
        Due.is("a man who is wed", x.least(1, 1, 0), NOT);
        Due.is("out of bounds first", x.least(1, 0, 0), OUTSIDE);
        Due.is("his wife", x.least(0, 1, 0), 0);
        Due.is("for nothing", x.least(0, 1, 1), 0);
    }

    private static void leastOfLikeOnes() {
        DebtDowry x = Due.townOf("i0 0;c99 30 40 3;c99 10 40 3;c99 20 40 3;c99 30 40 6;g0,0,0,0;");
        Due.is("least(0, 3, 0)", x.least(0, 3, 0), 2);
        Due.is("least(0, 3, 1)", x.least(0, 3, 1), 10);
        Due.is("two for as much as one: the least set", x.least(0, 6, 0), 6);
        Due.is("least(0, 6, 1)", x.least(0, 6, 1), 30);
        Due.is("least(0, 9, 0)", x.least(0, 9, 0), 10);
        Due.is("least(0, 9, 1)", x.least(0, 9, 1), 40);
        Due.is("least(0, 10, 0)", x.least(0, 10, 0), 14);
        Due.is("least(0, 13, 0)", x.least(0, 13, 0), 15);
        Due.is("least(0, 13, 1)", x.least(0, 13, 1), 90);
        Due.is("least(0, 16, 0)", x.least(0, 16, 0), NONE);
        DebtDowry most = Due.townOf("i0 0;c9 1 1 9;c9 1 1 9;c9 1 1 9;c9 1 1 9;g0,0,0,0;");
        Due.is("all that can be", most.least(0, 36, 0), 15);
    }

    private static void leastOnlyOfTheCold() {
        DebtDowry x = Due.townOf("i0 10;c5 10 40 3;c4 10 40 4;c99 10 40 5;c99 10 20 6;g5,5,30,21;m9,0,0,0;");
        Due.is("standing", x.person(0, 3), 4);
        Due.is("has it already", x.least(0, 4, 0), 0);
        Due.is("just what the purse has", x.least(0, 7, 0), 1);
        Due.is("how much", x.least(0, 7, 1), 5);
        Due.is("more than the purse has; who is sour stays so", x.least(0, 8, 0), NONE);
        x.pay(0, 2, 5);
        Due.is("insulted", x.person(0, 3), -1);
        Due.is("an insult cannot be bought off", x.least(0, 3, 0), NONE);
        Due.is("the other can", x.least(0, 2, 0), 1);
        x.quarter(1);
        Due.is("forgotten", x.least(0, 3, 0), 0);
        DebtDowry failed = Due.townOf("i0 10;c20 10 15 3;g0;m30;");
        Due.is("ahead", failed.least(0, 3, 0), 1);
        failed.quarter(1);
        Due.is("of one who failed", failed.least(0, 3, 0), NONE);
    }

    private static void planRefused() {
        DebtDowry x = Due.townOf(TOWN);
        Due.is("plan(4, 0, 0, 0)", x.plan(4, 0, 0, 0), UNKNOWN);
        Due.is("plan(0, 2, 9, 0)", x.plan(0, 2, 9, 0), UNKNOWN);
        Due.is("plan(-1, 0, 1, 0)", x.plan(-1, 0, 1, 0), UNKNOWN);
        Due.is("plan(0, 0, 0, 0)", x.plan(0, 0, 0, 0), OUTSIDE);
        Due.is("plan(0, 0, 9, 0)", x.plan(0, 0, 9, 0), OUTSIDE);
        Due.is("plan(0, 0, 1, 2)", x.plan(0, 0, 1, 2), OUTSIDE);
        Due.is("plan(0, 0, 1, -1)", x.plan(0, 0, 1, -1), OUTSIDE);
        x.quarter(1);
        Due.is("of one who failed", x.plan(0, 1, 1, 0), NONE);
        Due.is("out of bounds first", x.plan(0, 1, 0, 0), OUTSIDE);
        x.wed(0, 1);
        Due.is("a man who is wed owes nothing", x.plan(1, 0, 1, 0), NONE);
    }

    private static void planKnown() {
        DebtDowry x = Due.townOf("i10 0;c0 10 50 4;c0 46 50 1;g60,60;m9,45;g0,0;m45,51;");
        // 46 is the most that is no more than 50 behind a quarter: 46 and 4.
        Due.is("one quarter", x.plan(0, 0, 1, 0), 14);
        Due.is("one quarter, first", x.plan(0, 0, 1, 1), 14);
        // 18 paid at first (42 becomes 46, then 50) is as good as 14 and 4: of these the least.
        Due.is("two quarters", x.plan(0, 0, 2, 0), 18);
        Due.is("two quarters, first", x.plan(0, 0, 2, 1), 14);
        Due.is("too little is owed", x.plan(1, 0, 1, 0), NONE);
        Due.is("nothing is owed", x.plan(2, 0, 8, 1), NONE);
        Due.is("A to B from the first quarter on", x.plan(3, 1, 1, 0), 5);
        Due.is("grows into A", x.plan(1, 1, 1, 0), 0);
        // 45, 49: then 46 must be left, which becomes 50; of 50 4 are paid each time.
        Due.is("eight quarters in a narrow band", x.plan(1, 1, 8, 0), 3 + 6 * 4);
        Due.is("paid at first", x.plan(1, 1, 8, 1), 0);
    }

    private static void planOfLikeOnes() {
        DebtDowry x = Due.townOf("i0 0;c0 10 50 4;g60;m50;");
        Due.is("without interest all is paid at first", x.plan(0, 0, 8, 0), 10);
        Due.is("since it must be", x.plan(0, 0, 8, 1), 10);
        Due.is("nothing to pay", x.plan(1, 0, 8, 0), 0);
        DebtDowry y = Due.townOf("i10 0;c0 1 10 4;g10;");
        Due.is("a coin of ten", y.plan(0, 0, 1, 0), 1);
        Due.is("ten must fall to nine", y.plan(0, 0, 1, 1), 1);
        DebtDowry z = Due.townOf("i10 0;c0 1 12 4;g10;");
        Due.is("10, 11, 12 and a coin", z.plan(0, 0, 3, 0), 1);
        Due.is("9 stays 9, but it may be paid as well at last", z.plan(0, 0, 3, 1), 0);
        Due.is("of two quarters none", z.plan(0, 0, 2, 0), 0);
    }

    private static void planOfTheMost() {
        // Only 769 becomes 999 by 30 of a hundred, so 230 are paid each time.
        DebtDowry x = Due.townOf("i30 0;c0 999 999 1;g999;m769;");
        for (int n = 8; n >= 1; n--) {
            Due.is("plan(0, 0, " + n + ", 0)", x.plan(0, 0, n, 0), 230 * n);
            Due.is("plan(0, 0, " + n + ", 1)", x.plan(0, 0, n, 1), 230);
            Due.is("plan(1, 0, " + n + ", 0)", x.plan(1, 0, n, 0), 230 * (n - 1));
            Due.is("plan(1, 0, " + n + ", 1)", x.plan(1, 0, n, 1), 0);
        }
    }

    /** Against trying all payments of small sums, each one by one. */
    private static void planByTrial() {
        for (int interest = 0; interest <= 30; interest += 6) {
            for (int owed = 1; owed <= 25; owed += 4) {
                DebtDowry x = Due.townOf("i" + interest + " 0;c0 4 13 1;g" + owed + ";");
                for (int n = 1; n <= 3; n++) {
                    int[] due = tryAll(interest, owed, n);
                    String call = "plan of " + owed + " by " + interest + " in " + n;
                    Due.is(call, x.plan(0, 0, n, 0), due[0]);
                    Due.is(call + ", first", x.plan(0, 0, n, 1), due[1]);
                }
            }
        }
    }

    private static int[] tryAll(int interest, int owed, int n) {
        int[] best = {NONE, NONE};
        for (int coins = 0; coins <= owed; coins++) {
            int behind = owed - coins + (owed - coins) * interest / 100;
            if (behind < 4 || behind > 13) {
                continue;
            }
            int later = n == 1 ? 0 : tryAll(interest, behind, n - 1)[0];
            if (later != NONE && (best[0] == NONE || coins + later < best[0])) {
                best[0] = coins + later;
                best[1] = coins;
            }
        }
        return best;
    }

    private static void matchesKnown() {
        DebtDowry x = Due.townOf("i0 50;c100 10 20 4;c100 10 20 7;g5,5;m5,0;m0,5;g10,0;m6,6;");
        // Girl 0: man 1 makes 4, man 2 makes 7, man 4 makes 11. Girl 3: man 1 keeps 4, man 2 and 4 too.
        Due.is("how many", x.matches(NONE), 1);
        Due.is("the man of girl 0", x.matches(0), 4);
        Due.is("the man of girl 3", x.matches(3), NONE);
        Due.is("a man", x.matches(1), UNKNOWN);
        Due.is("nobody", x.matches(5), UNKNOWN);
        Due.is("below all", x.matches(-2), UNKNOWN);
        x.wed(0, 4);
        Due.is("none is left", x.matches(NONE), 0);
        Due.is("a girl who is wed", x.matches(0), NONE);
        DebtDowry hers = Due.townOf("i0 50;c100 10 20 4;g10;m5;g5;m11;");
        Due.is("above hers and above his", hers.matches(NONE), 1);
        Due.is("of the girl who gains", hers.matches(2), 1);
        Due.is("of the girl who does not", hers.matches(0), NONE);
        DebtDowry his = Due.townOf("i0 50;c100 10 20 4;g5;m10;");
        Due.is("as much as he has is not above", his.matches(NONE), 0);
        DebtDowry sour = Due.townOf("i0 50;c100 10 20 4;g30;m30;");
        Due.is("as sour as ahead", sour.matches(NONE), 0);
    }

    private static void matchesOfLikeOnes() {
        DebtDowry x = Due.townOf("i0 50;c100 10 20 4;m5;g5;m5;g5;m5;g6;");
        Due.is("how many", x.matches(NONE), 3);
        Due.is("girl 1", x.matches(1), 0);
        Due.is("girl 3", x.matches(3), 2);
        Due.is("girl 5", x.matches(5), 4);
        // Girl 1 makes the greatest with man 0, though girl 0 comes first.
        DebtDowry y = Due.townOf("i0 50;c100 10 20 4;c99 3 9 2;g5,0;g5,3;m5,0;m5,0;");
        Due.is("both find one", y.matches(NONE), 2);
        Due.is("girl 1 chooses first", y.matches(1), 2);
        Due.is("girl 0 has what is left", y.matches(0), 3);
    }

    private static void failingAndRun() {
        DebtDowry x = Due.townOf(TOWN);
        Due.is("failing()", x.failing(), 2);
        Due.is("run(1)", x.run(1), 2);
        Due.is("run(5)", x.run(5), 2);
        Due.is("run(6)", x.run(6), 3);
        Due.is("run(20)", x.run(20), 3);
        Due.is("run(0)", x.run(0), OUTSIDE);
        Due.is("run(21)", x.run(21), OUTSIDE);
        Due.is("no quarters went by", x.told(6), 0);
        x.quarter(1);
        Due.is("who failed does not again", x.failing(), 0);
        Due.is("who failed before stays in the run", x.run(1), 2);
        DebtDowry cold = Due.townOf("i0 10;c5 1 20 4;g40;");
        cold.pay(0, 0, 5);
        Due.is("the insult is forgotten by then", cold.failing(), 1);
    }

    private static void creditKnown() {
        DebtDowry x = Due.townOf("i0 50;c100 10 50 4;c30 20 40 7;c0 5 9 1;g20,25,5;m60,0,4;g0,0,9;m50,45,10;");
        int[][] due = {{30, 15, 0}, {NONE, 30, NONE}, {50, 30, 0}, {0, NONE, NONE}};
        for (int p = 0; p < 4; p++) {
            for (int c = 0; c < 3; c++) {
                Due.is("credit(" + p + ", " + c + ")", x.credit(p, c), due[p][c]);
            }
        }
        Due.is("credit(4, 0)", x.credit(4, 0), UNKNOWN);
        Due.is("credit(0, 3)", x.credit(0, 3), UNKNOWN);
        Due.is("credit(-1, 0)", x.credit(-1, 0), UNKNOWN);
        x.pay(0, 1, 13);
        Due.is("an insult", x.credit(0, 1), NONE);
        x.borrow(2, 1, 25);
        Due.is("the purse has too little to reach A", x.credit(1, 1), NONE);
        x.wed(2, 1);
        Due.is("a man who is wed", x.credit(1, 0), NONE);
        DebtDowry low = Due.townOf("i0 50;c9 10 50 4;c9 10 50 4;g0,1;");
        Due.is("a coin short of A", low.credit(0, 0), NONE);
        Due.is("just A", low.credit(0, 1), 9);
        DebtDowry failed = Due.townOf("i0 50;c9 1 5 4;g0;m10;");
        Due.is("ahead", failed.credit(0, 0), 5);
        failed.quarter(1);
        Due.is("of one who failed", failed.credit(0, 0), NONE);
    }

    private static void rumoursKnown() {
        DebtDowry x = new DebtDowry();
        Due.is("rumours(0, 50)", x.rumours(0, 50), 1000000000);
        Due.is("rumours(60, 0)", x.rumours(60, 0), 1000000000);
        Due.is("rumours(1, 100)", x.rumours(1, 100), 0);
        Due.is("rumours(0, 100)", x.rumours(0, 100), 1000000000);
        Due.is("rumours(3, 50)", x.rumours(3, 50), 125000000);
        Due.is("rumours(10, 50), cut each time", x.rumours(10, 50), 976562);
        Due.is("rumours(60, 1)", x.rumours(60, 1), 547156620);
        Due.is("rumours(60, 99)", x.rumours(60, 99), 0);
        Due.is("rumours(5, 99)", x.rumours(5, 99), 0);
        Due.is("rumours(4, 99)", x.rumours(4, 99), 10);
        Due.is("rumours(-1, 0)", x.rumours(-1, 0), OUTSIDE);
        Due.is("rumours(61, 0)", x.rumours(61, 0), OUTSIDE);
        Due.is("rumours(0, -1)", x.rumours(0, -1), OUTSIDE);
        Due.is("rumours(0, 101)", x.rumours(0, 101), OUTSIDE);
    }

    private static void nothingChanges() {
        DebtDowry x = Due.townOf(TOWN);
        x.pay(0, 0, 11);
        x.joined(2, 3);
        x.least(2, 5, 0);
        x.plan(0, 1, 8, 0);
        x.matches(NONE);
        x.failing();
        x.run(20);
        x.credit(0, 0);
        x.rumours(60, 50);
        int[] told = {1, 10, 50, 2, 4, 0, 0, 5, 0, 0, 149, 0, 0, 1};
        for (int what = 0; what < told.length; what++) {
            Due.is("told(" + what + ")", x.told(what), told[what]);
        }
        Due.is("purse", x.creditor(0, 0), 111);
        Due.is("insults", x.person(0, 4), 1);
    }
}
