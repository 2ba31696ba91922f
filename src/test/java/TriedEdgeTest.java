import java.util.LinkedHashMap;
import java.util.Map;
import java.util.function.Supplier;
import java.util.function.ToIntFunction;

/** Section 3 of the document, what is tried from now: a test for each sentence that names a bound. */
public final class TriedEdgeTest {
    private static final int NONE = DebtDowry.NONE;
    private static final int UNKNOWN = DebtDowry.UNKNOWN;
    private static final int OUTSIDE = DebtDowry.OUTSIDE;
    private static final int NOT = DebtDowry.NOT;

    public static void main(String[] args) {
        nothingChanges();
        joinedIfBothAreNotWed();
        leastStandingOneTo36();
        leastOfSoMuchOrMore();
        leastJustUpToLow();
        leastIfThePurseHasIt();
        leastOfTheColdAlone();
        leastWithoutInsult();
        leastOfWhoDidNotFail();
        leastSetOfLikeOnes();
        leastOfNothing();
        planOneToEightQuarters();
        planFromLowToHigh();
        planOfNothingAndAll();
        planWhateverInsultAndPurse();
        planPaysLeastAtFirst();
        planOfTheMost();
        planOfWhoFailed();
        matchesAboveBoth();
        matchesOfTheGreatest();
        matchesOfLikeOnes();
        matchesTillThereIsNone();
        matchesOfTheUnwed();
        failingByTheNextQuarter();
        runOneToTwenty();
        runTellsThoseBefore();
        creditOfNothing();
        creditUpToHigh();
        creditByThePurse();
        creditByNoSum();
        rumoursZeroToSixty();
        rumoursZeroToHundred();
        rumoursAreCutEach();
        Due.end();
    }

    private static Map<String, ToIntFunction<DebtDowry>> questions() {
        Map<String, ToIntFunction<DebtDowry>> all = new LinkedHashMap<>();
        all.put("joined(0, 1)", x -> x.joined(0, 1));
        all.put("least(0, 1, 0)", x -> x.least(0, 1, 0));
        all.put("least(2, 36, 1)", x -> x.least(2, 36, 1));
        all.put("plan(0, 0, 8, 0)", x -> x.plan(0, 0, 8, 0));
        all.put("plan(1, 0, 1, 1)", x -> x.plan(1, 0, 1, 1));
        all.put("matches(NONE)", x -> x.matches(NONE));
        all.put("matches(0)", x -> x.matches(0));
        all.put("failing()", x -> x.failing());
        all.put("run(1)", x -> x.run(1));
        all.put("run(20)", x -> x.run(20));
        all.put("credit(0, 0)", x -> x.credit(0, 0));
        all.put("credit(1, 1)", x -> x.credit(1, 1));
        all.put("rumours(60, 1)", x -> x.rumours(60, 1));
        all.put("had(0, 0, 0)", x -> x.had(0, 0, 0));
        all.put("had(0, 0, 2)", x -> x.had(0, 0, 2));
        all.put("lookAt(0, 0)", x -> x.lookAt(0, 0));
        all.put("judge()", x -> x.judge());
        all.put("fault()", x -> x.fault());
        all.put("told(6)", x -> x.told(6));
        all.put("creditor(0, 4)", x -> x.creditor(0, 4));
        all.put("person(0, 3)", x -> x.person(0, 3));
        return all;
    }

    /** "TRIED from now; nothing changes by it." */
    private static void nothingChanges() {
        for (Map.Entry<String, ToIntFunction<DebtDowry>> question : questions().entrySet()) {
            for (Supplier<DebtDowry> made : Edge.states()) {
                DebtDowry x = made.get();
                int first = question.getValue().applyAsInt(x);
                Due.is(question.getKey() + " again", question.getValue().applyAsInt(x), first);
                Edge.isAs(question.getKey() + " changes nothing", x, made.get());
            }
        }
    }

    /** "if she were WED to a man (both not WED)" */
    private static void joinedIfBothAreNotWed() {
        DebtDowry x = Due.townOf("i0 0;c9 10 20 5;c9 10 20 1;g5,21;m5,0;g0,0;m15,9;");
        Due.is("both unwed", x.joined(0, 1), 14);
        Due.is("twenty is not above twenty", x.joined(0, 3), 14);
        Due.is("he alone", x.joined(2, 3), 15);
        Due.is("nobody owes", x.joined(2, 1), 10);
        x.wed(2, 3);
        Due.is("she is wed", x.joined(2, 1), NOT);
        Due.is("he is wed", x.joined(0, 3), NOT);
        Due.is("both, to each other", x.joined(2, 3), NOT);
        Due.is("the others are not", x.joined(0, 1), 14);
        x.divorce(2);
        Due.is("not any more, and the half stays with her", x.joined(2, 1), 15);
    }

    /** "STANDING s (1 .. 36)" */
    private static void leastStandingOneTo36() {
        DebtDowry x = Due.townOf("i0 0;c9 1 1 9;c9 2 2 9;c9 3 3 9;c9 4 4 9;g0,0,0,0;m1,1,0,0;");
        Due.is("least(0, 0, 0)", x.least(0, 0, 0), OUTSIDE);
        Due.is("least(0, 1, 0)", x.least(0, 1, 0), 1);
        Due.is("least(0, 1, 1)", x.least(0, 1, 1), 1);
        Due.is("least(0, 36, 0)", x.least(0, 36, 0), 15);
        Due.is("least(0, 36, 1)", x.least(0, 36, 1), 10);
        Due.is("least(0, 37, 0)", x.least(0, 37, 0), OUTSIDE);
        Due.is("least(0, 37, 1)", x.least(0, 37, 1), OUTSIDE);
        Due.is("least(0, -1, 0)", x.least(0, -1, 0), OUTSIDE);
        Due.is("least(1, 36, 0)", x.least(1, 36, 0), 14);
        Due.is("least(1, 36, 1)", x.least(1, 36, 1), 8);
        DebtDowry sour = Due.townOf("i0 0;c9 1 1 9;c9 2 2 9;c9 3 3 9;c9 4 4 9;g2,0,0,0;");
        Due.is("one who is sour stays so", sour.least(0, 27, 0), NONE);
        Due.is("and takes one", sour.least(0, 26, 0), 14);
    }

    /** "STANDING s .. or more" */
    private static void leastOfSoMuchOrMore() {
        DebtDowry x = Due.townOf("i0 0;c99 10 20 4;c99 30 40 6;g0,0;m10,0;");
        Due.is("four of four", x.least(0, 4, 0), 1);
        Due.is("six of six", x.least(0, 6, 0), 2);
        Due.is("five by six", x.least(0, 5, 0), 2);
        Due.is("seven by both", x.least(0, 7, 0), 3);
        Due.is("ten by both", x.least(0, 10, 0), 3);
        Due.is("eleven by none", x.least(0, 11, 0), NONE);
        Due.is("eleven for none", x.least(0, 11, 1), NONE);
        Due.is("who has just so much", x.least(1, 4, 0), 0);
        Due.is("who has one less", x.least(1, 5, 0), 2);
    }

    /** "just up to A" */
    private static void leastJustUpToLow() {
        for (int owed : new int[] {0, 1, 8, 9}) {
            DebtDowry x = Due.townOf("i0 0;c99 10 20 4;g" + owed + ";");
            Due.is("from " + owed, x.least(0, 4, 1), 10 - owed);
            Due.is("by the set", x.least(0, 4, 0), 1);
            Due.is("as if done", x.borrow(0, 0, 10 - owed), 10);
            Due.is("the standing", x.person(0, 3), 4);
            Due.is("nothing more", x.least(0, 4, 1), 0);
        }
        DebtDowry most = Due.townOf("i0 0;c999 999 999 4;g0;");
        Due.is("the most", most.least(0, 4, 1), 999);
    }

    /** "if the PURSE has it" */
    private static void leastIfThePurseHasIt() {
        for (int purse = 0; purse <= 11; purse++) {
            DebtDowry x = Due.townOf("i0 0;c" + purse + " 10 20 4;g0;m9;g10;");
            Due.is("ten of " + purse, x.least(0, 4, 0), purse >= 10 ? 1 : NONE);
            Due.is("ten of " + purse + ", coins", x.least(0, 4, 1), purse >= 10 ? 10 : NONE);
            Due.is("one of " + purse, x.least(1, 4, 1), purse >= 1 ? 1 : NONE);
            Due.is("nothing of " + purse, x.least(2, 4, 1), 0);
        }
    }

    /** "to whom he is COLD" */
    private static void leastOfTheColdAlone() {
        DebtDowry x = Due.townOf("i0 0;c99 10 20 4;c99 10 20 5;g20,0;m21,0;");
        Due.is("who is civil is counted already", x.least(0, 9, 0), 2);
        Due.is("ten coins", x.least(0, 9, 1), 10);
        Due.is("who is sour cannot be won", x.least(1, 5, 0), NONE);
        Due.is("he takes one", x.least(1, 4, 0), 2);
    }

    /** "without INSULT" */
    private static void leastWithoutInsult() {
        DebtDowry x = Due.townOf("i0 50;c99 10 20 4;c99 10 20 5;g9,9;m9,9;");
        x.pay(0, 0, 5);
        Due.is("cold by insult and by sum", x.least(0, 4, 0), 2);
        Due.is("not both", x.least(0, 6, 0), NONE);
        Due.is("another may", x.least(1, 9, 0), 3);
        x.quarter(1);
        Due.is("forgotten", x.least(0, 9, 0), 3);
    }

    /** "each CREDITOR who did not FAIL" */
    private static void leastOfWhoDidNotFail() {
        DebtDowry x = Due.townOf("i0 50;c20 10 20 4;c99 15 20 5;g0,0;m21,0;");
        Due.is("ahead", x.least(0, 9, 0), 3);
        x.quarter(1);
        Due.is("he failed", x.told(9), 1);
        Due.is("behind", x.least(0, 9, 0), NONE);
        Due.is("the other", x.least(0, 1, 0), 2);
        Due.is("by its coins", x.least(0, 1, 1), 15);
    }

    /** "fewest coins; of like ones the least SET of CREDITORS" */
    private static void leastSetOfLikeOnes() {
        DebtDowry alike = Due.townOf("i0 0;c99 10 20 4;c99 10 20 4;c99 10 20 4;c99 10 20 4;g0,0,0,0;");
        int[] due = {1, 3, 7, 15};
        for (int n = 1; n <= 4; n++) {
            Due.is("any " + n, alike.least(0, 4 * n, 0), due[n - 1]);
            Due.is("any " + n + ", coins", alike.least(0, 4 * n, 1), 10 * n);
        }
        DebtDowry fewest = Due.townOf("i0 0;c99 11 20 4;c99 10 20 4;c99 10 20 4;c99 9 20 4;g0,0,0,0;");
        Due.is("the last is cheapest", fewest.least(0, 4, 0), 8);
        Due.is("two: the last and one of ten", fewest.least(0, 8, 0), 10);
        Due.is("three", fewest.least(0, 12, 0), 14);
        DebtDowry seven = Due.townOf("i0 0;c99 1 20 1;c99 2 20 1;c99 3 20 1;c99 6 20 3;g0,0,0,0;");
        Due.is("three for as much as the fourth", seven.least(0, 3, 0), 7);
        DebtDowry eight = Due.townOf("i0 0;c99 1 20 1;c99 2 20 1;c99 4 20 1;c99 6 20 3;g0,0,0,0;");
        Due.is("the fourth for less", eight.least(0, 3, 0), 8);
    }

    /** "or nothing": SET 0 for nothing */
    private static void leastOfNothing() {
        DebtDowry x = Due.townOf("i0 0;c99 10 20 4;c99 10 20 5;g10,0;");
        for (int s = 1; s <= 4; s++) {
            Due.is("the set for " + s, x.least(0, s, 0), 0);
            Due.is("the coins for " + s, x.least(0, s, 1), 0);
        }
        Due.is("the set for 5", x.least(0, 5, 0), 2);
    }

    /** "n QUARTERS (1 .. 8)" */
    private static void planOneToEightQuarters() {
        // Only 10 becomes 11 by 10 of a hundred, so of eleven one is paid each time.
        DebtDowry x = Due.townOf("i10 0;c0 11 11 4;g11;m10;");
        Due.is("plan(0, 0, 0, 0)", x.plan(0, 0, 0, 0), OUTSIDE);
        Due.is("plan(0, 0, 9, 0)", x.plan(0, 0, 9, 0), OUTSIDE);
        Due.is("plan(0, 0, -1, 1)", x.plan(0, 0, -1, 1), OUTSIDE);
        for (int n = 1; n <= 8; n++) {
            Due.is("how much in " + n, x.plan(0, 0, n, 0), n);
            Due.is("first of " + n, x.plan(0, 0, n, 1), 1);
            Due.is("how much of ten in " + n, x.plan(1, 0, n, 0), n - 1);
            Due.is("first of ten in " + n, x.plan(1, 0, n, 1), 0);
        }
        Due.is("plan(0, 0, 1, -1)", x.plan(0, 0, 1, -1), OUTSIDE);
        Due.is("plan(0, 0, 1, 2)", x.plan(0, 0, 1, 2), OUTSIDE);
    }

    /** "so that behind each he owes A to B" */
    private static void planFromLowToHigh() {
        int[] owed = {0, 9, 10, 19, 20, 21, 22, 999};
        int[] due = {NONE, NONE, 0, 0, 0, 1, 2, 979};
        for (int i = 0; i < owed.length; i++) {
            DebtDowry x = Due.townOf("i0 0;c0 10 20 4;g" + owed[i] + ";");
            for (int n = 1; n <= 8; n += 7) {
                Due.is("of " + owed[i] + " in " + n, x.plan(0, 0, n, 0), due[i]);
                Due.is("of " + owed[i] + " in " + n + ", first", x.plan(0, 0, n, 1), due[i]);
            }
        }
        // Behind each, not ahead: 10 becomes 11, 19 becomes 20, 9 stays 9.
        int[] grown = {9, 10, 18, 19, 20};
        int[] coins = {NONE, 0, 0, 0, 1};
        for (int i = 0; i < grown.length; i++) {
            DebtDowry x = Due.townOf("i10 0;c0 11 20 4;g" + grown[i] + ";");
            Due.is("of " + grown[i] + " by ten of a hundred", x.plan(0, 0, 1, 0), coins[i]);
        }
        DebtDowry one = Due.townOf("i0 0;c0 7 7 4;g6;m7;g8;");
        Due.is("below the only sum", one.plan(0, 0, 8, 0), NONE);
        Due.is("the only sum", one.plan(1, 0, 8, 0), 0);
        Due.is("above the only sum", one.plan(2, 0, 8, 0), 1);
        // By a fifth four stays four, and five becomes six.
        DebtDowry hole = Due.townOf("i20 0;c0 5 5 4;g99;");
        Due.is("no sum becomes five by a fifth", hole.plan(0, 0, 1, 0), NONE);
        DebtDowry held = Due.townOf("i20 0;c0 4 4 4;g99;");
        Due.is("four stays four", held.plan(0, 0, 8, 0), 95);
    }

    /** "what may be (0 to all)" */
    private static void planOfNothingAndAll() {
        DebtDowry x = Due.townOf("i0 0;c0 1 1 4;c0 1 1 4;c0 1 1 4;g1,0,999;");
        Due.is("nothing is paid", x.plan(0, 0, 8, 0), 0);
        Due.is("nothing at first", x.plan(0, 0, 8, 1), 0);
        Due.is("who owes nothing can pay nothing", x.plan(0, 1, 1, 0), NONE);
        Due.is("first of none", x.plan(0, 1, 1, 1), NONE);
        Due.is("all but one", x.plan(0, 2, 8, 0), 998);
        Due.is("all but one at first", x.plan(0, 2, 8, 1), 998);
    }

    /** "(INSULTS, PURSE do not matter)" */
    private static void planWhateverInsultAndPurse() {
        DebtDowry x = Due.townOf("i10 0;c0 10 20 4;g30;m29;");
        x.pay(0, 0, 1);
        Due.is("an insult", x.person(0, 4), 1);
        for (int n = 1; n <= 8; n++) {
            Due.is("how much in " + n, x.plan(0, 0, n, 0), x.plan(1, 0, n, 0));
            Due.is("first in " + n, x.plan(0, 0, n, 1), x.plan(1, 0, n, 1));
        }
        Due.is("to nineteen", x.plan(0, 0, 1, 0), 10);
        DebtDowry full = Edge.rich();
        full.pay(0, 0, 9000);
        Due.is("a full purse", full.plan(0, 0, 1, 0), 999 - 769);
    }

    /** "what is PAID first (of like ones the least)" */
    private static void planPaysLeastAtFirst() {
        // 10, 11, 12, 13: 12 must not grow, so one coin is paid in the third quarter, or earlier.
        DebtDowry x = Due.townOf("i10 0;c0 1 12 4;g10;m12;");
        Due.is("in three", x.plan(0, 0, 3, 0), 1);
        Due.is("not at first", x.plan(0, 0, 3, 1), 0);
        Due.is("one who must at once", x.plan(1, 0, 1, 1), 1);
        // Nine stays nine, so for longer the coin is best paid at first; 11 and 12 would grow again.
        for (int n = 4; n <= 8; n++) {
            Due.is("how much in " + n, x.plan(0, 0, n, 0), 1);
            Due.is("at first in " + n, x.plan(0, 0, n, 1), 1);
        }
        DebtDowry y = Due.townOf("i10 0;c0 10 50 4;g60;");
        Due.is("14 and 4, or 18", y.plan(0, 0, 2, 0), 18);
        Due.is("14 at first", y.plan(0, 0, 2, 1), 14);
    }

    private static void planOfTheMost() {
        DebtDowry x = Edge.rich();
        Due.is("from 9999 to 769", x.plan(0, 0, 1, 0), 9230);
        Due.is("at first", x.plan(0, 0, 1, 1), 9230);
        DebtDowry high = Due.townOf("i30 0;c0 999 999 9;g999;");
        for (int n = 8; n >= 1; n--) {
            Due.is("from 999 to 999 by 769 in " + n, high.plan(0, 0, n, 0), n * 230);
            Due.is("230 at first in " + n, high.plan(0, 0, n, 1), 230);
        }
    }

    /** "NONE (also of one who FAILED)" */
    private static void planOfWhoFailed() {
        DebtDowry x = Due.townOf("i0 0;c20 10 20 4;c20 10 20 4;g21,15;");
        Due.is("ahead", x.plan(0, 0, 1, 0), 1);
        x.quarter(1);
        for (int n = 1; n <= 8; n += 7) {
            Due.is("of one who failed in " + n, x.plan(0, 0, n, 0), NONE);
            Due.is("first of one who failed in " + n, x.plan(0, 0, n, 1), NONE);
        }
        Due.is("of the other", x.plan(0, 1, 8, 0), 0);
    }

    /** "JOINED is above her STANDING and above his" */
    private static void matchesAboveBoth() {
        String creditors = "i0 0;c99 10 20 4;c99 10 20 4;c99 10 20 5;";
        String[] pairs = {"g5,0,0;m5,0,0;", "g10,0,0;m0,0,0;", "g0,0,0;m10,0,0;", "g10,5,0;m0,5,0;", "g0,5,0;m10,5,0;",
            "g10,0,0;m0,10,0;", "g10,0,21;m0,0,0;", "g10,15,0;m10,5,0;", "g15,0,0;m0,15,15;", "g20,0,5;m1,0,5;",
            "g21,0,0;m21,0,0;", "g0,0,0;m0,0,0;", "g20,5,0;m1,5,0;"};
        // Joined, hers, his: 4 0 0, 4 4 0, 4 0 4, 8 4 0, 8 0 4, 8 4 4, 3 3 0, 8 8 4, 13 4 9, 4 4 0, -1 -1 -1, 0 0 0, 3 4 0.
        int[] due = {1, 0, 0, 1, 1, 1, 0, 0, 1, 0, 0, 0, 0};
        for (int i = 0; i < pairs.length; i++) {
            DebtDowry x = Due.townOf(creditors + pairs[i]);
            Due.is("pairs of " + pairs[i], x.matches(NONE), due[i]);
            Due.is("the man in " + pairs[i], x.matches(0), due[i] == 1 ? 1 : NONE);
            int joined = x.joined(0, 1) - 10;
            boolean rather = joined > x.person(0, 3) && joined > x.person(1, 3);
            Due.is("by joined of " + pairs[i], rather ? 1 : 0, due[i]);
        }
        DebtDowry below = Due.townOf("i0 0;c99 10 20 4;c99 10 20 4;g21,21;m0,0;");
        Due.is("as sour as she is", below.matches(NONE), 0);
        DebtDowry above = Due.townOf("i0 0;c99 10 20 1;c99 10 20 1;g21,5;m0,5;");
        Due.is("joined is 0, hers -1, his 0", above.matches(NONE), 0);
        DebtDowry insulted = Due.townOf("i0 0;c99 1 2 1;c99 1 2 1;c99 1 2 1;g9,9,9;m9,9,9;");
        insulted.pay(0, 2, 1);
        insulted.pay(1, 0, 1);
        Due.is("joined is below 0", insulted.joined(0, 1), 9);
        Due.is("hers is less", insulted.person(0, 3), -2);
        Due.is("his is less", insulted.person(1, 3), -2);
        Due.is("so they would rather", insulted.matches(NONE), 1);
        Due.is("he is her man", insulted.matches(0), 1);
    }

    /** "the one of the greatest JOINED" */
    private static void matchesOfTheGreatest() {
        DebtDowry x = Due.townOf("i0 0;c99 10 20 4;c99 10 20 7;g5,5;m5,0;g0,5;m5,5;");
        // Girl 0 and man 3 make 11; then girl 2 and man 1 make nothing.
        Due.is("pairs", x.matches(NONE), 1);
        Due.is("girl 0", x.matches(0), 3);
        Due.is("girl 2", x.matches(2), NONE);
        DebtDowry later = Due.townOf("i0 0;c99 10 20 4;c99 10 20 7;g5,0;g5,5;m5,5;m5,0;");
        Due.is("the last pair comes first", later.matches(1), 2);
        Due.is("the rest", later.matches(0), 3);
        Due.is("both", later.matches(NONE), 2);
    }

    /** "of like ones the least girl, then man" */
    private static void matchesOfLikeOnes() {
        DebtDowry girls = Due.townOf("i0 0;c99 10 20 4;g5;g5;m5;");
        Due.is("one man, two girls", girls.matches(NONE), 1);
        Due.is("the first girl", girls.matches(0), 2);
        Due.is("the other", girls.matches(1), NONE);
        DebtDowry men = Due.townOf("i0 0;c99 10 20 4;m5;m5;g5;");
        Due.is("one girl, two men: the first", men.matches(2), 0);
        DebtDowry both = Due.townOf("i0 0;c99 10 20 4;m5;g5;m5;g5;");
        Due.is("girl 1", both.matches(1), 0);
        Due.is("girl 3", both.matches(3), 2);
        // Girl 1 may have any man, girl 0 only man 3: the least girl is first, though man 2 is less.
        DebtDowry girlFirst = Due.townOf("i0 0;c99 10 20 4;g3;g5;m5;m7;");
        Due.is("girl 0 takes man 3", girlFirst.matches(0), 3);
        Due.is("girl 1 has man 2 then", girlFirst.matches(1), 2);
    }

    /** "till there is none: how many; the man of a girl; NONE" */
    private static void matchesTillThereIsNone() {
        DebtDowry x = Due.townOf("i0 0;c99 10 20 4;g5;g5;g5;g5;m5;m5;m5;m5;");
        Due.is("four pairs", x.matches(NONE), 4);
        for (int g = 0; g < 4; g++) {
            Due.is("girl " + g, x.matches(g), g + 4);
            Due.is("a man", x.matches(g + 4), UNKNOWN);
        }
        DebtDowry girls = Due.townOf("i0 0;c99 10 20 4;g5;g5;g5;g5;g5;g5;g5;g5;");
        Due.is("girls alone", girls.matches(NONE), 0);
        Due.is("the last girl", girls.matches(7), NONE);
        DebtDowry men = Due.townOf("i0 0;c99 10 20 4;m5;m5;m5;m5;m5;m5;m5;m5;");
        Due.is("men alone", men.matches(NONE), 0);
        DebtDowry last = Due.townOf("i0 0;c99 10 20 4;m5;m5;m5;m5;m5;m5;m5;g5;");
        Due.is("one girl, the last", last.matches(7), 0);
        Due.is("nobody at all", Edge.noPersons().matches(NONE), 0);
        Due.is("no creditors", Edge.noCreditors().matches(NONE), 0);
        Due.is("no town", Edge.bare().matches(NONE), 0);
    }

    /** "of girls and men who are not WED" */
    private static void matchesOfTheUnwed() {
        DebtDowry x = Due.townOf("i0 0;c99 10 20 4;g5;g5;m5;m5;");
        x.wed(0, 2);
        Due.is("one pair is left", x.matches(NONE), 1);
        Due.is("who is wed", x.matches(0), NONE);
        Due.is("who is not", x.matches(1), 3);
        x.wed(1, 3);
        Due.is("none is left", x.matches(NONE), 0);
        Due.is("both are wed", x.matches(1), NONE);
        DebtDowry y = Due.townOf("i0 0;c99 10 20 4;g0;m0;g10;m5;g5;");
        y.wed(2, 1);
        Due.is("she would make more of him", y.matches(NONE), 1);
        Due.is("the other girl", y.matches(4), 3);
    }

    /** "CREDITORS (a SET) who would FAIL by the next QUARTER" */
    private static void failingByTheNextQuarter() {
        DebtDowry none = Due.townOf("i0 0;c9 1 2 3;c9 1 2 3;c9 1 2 3;c9 1 2 3;g9,9,9,9;");
        Due.is("none", none.failing(), 0);
        DebtDowry last = Due.townOf("i0 0;c9 1 2 3;c9 1 2 3;c9 1 2 3;c9 1 2 3;g9,9,9,10;");
        Due.is("the last", last.failing(), 8);
        DebtDowry all = Due.townOf("i0 0;c9 1 2 3;c9 1 2 3;c9 1 2 3;c9 1 2 3;g10,10,10,10;");
        Due.is("all", all.failing(), 15);
        all.quarter(1);
        Due.is("who failed does not again", all.failing(), 0);
        DebtDowry soon = Due.townOf("i10 0;c11 1 2 3;g10;");
        Due.is("not by this one", soon.failing(), 0);
        soon.quarter(1);
        Due.is("by the one behind it", soon.failing(), 1);
        Due.is("no creditors", Edge.noCreditors().failing(), 0);
        Due.is("no persons", Edge.noPersons().failing(), 0);
        Due.is("no town", Edge.bare().failing(), 0);
    }

    /** "n QUARTERS (1 .. 20) go by" */
    private static void runOneToTwenty() {
        int owed = 20;
        int[] behind = new int[22];
        for (int q = 0; q < behind.length; q++) {
            behind[q] = owed;
            owed += owed * 5 / 100;
        }
        for (int due = 1; due <= 21; due++) {
            // He fails just in the quarter that is due: his purse has what was owed ahead of it.
            DebtDowry x = Due.townOf("i5 0;c" + behind[due - 1] + " 1 2 3;g20;");
            for (int n = 1; n <= 20; n++) {
                Due.is("run(" + n + ") of one who fails in " + due, x.run(n), n >= due ? 1 : 0);
            }
            Due.is("run(0)", x.run(0), OUTSIDE);
            Due.is("run(21)", x.run(21), OUTSIDE);
            Due.is("run(-1)", x.run(-1), OUTSIDE);
        }
        Due.is("no town: run(20)", Edge.bare().run(20), 0);
        Due.is("no town: run(21)", Edge.bare().run(21), OUTSIDE);
        Due.is("no creditors: run(20)", Edge.noCreditors().run(20), 0);
    }

    /** "(a SET, those who did before too)" */
    private static void runTellsThoseBefore() {
        DebtDowry x = Due.townOf("i10 0;c9 1 2 9;c10 1 2 9;c11 1 2 9;c99 1 2 9;g10,10,10,0;");
        Due.is("in one", x.run(1), 3);
        Due.is("in two", x.run(2), 7);
        x.quarter(1);
        Due.is("with those before", x.run(1), 7);
        x.quarter(1);
        Due.is("only those before", x.run(20), 7);
    }

    private static int creditOf(int purse, int low, int high, int owed) {
        return Due.townOf("i0 0;c" + purse + " " + low + " " + high + " 4;g" + owed + ";").credit(0, 0);
    }

    /** "the most coins (0, too)" */
    private static void creditOfNothing() {
        Due.is("B is owed", creditOf(99, 10, 20, 20), 0);
        Due.is("an empty purse, A is owed", creditOf(0, 10, 20, 10), 0);
        Due.is("an empty purse, B is owed", creditOf(0, 10, 20, 20), 0);
        Due.is("A is B", creditOf(99, 20, 20, 20), 0);
    }

    /** "so that this one is CIVIL to him then" */
    private static void creditUpToHigh() {
        int[] owed = {0, 1, 9, 10, 19, 20, 21};
        int[] due = {20, 19, 11, 10, 1, 0, NONE};
        for (int i = 0; i < owed.length; i++) {
            Due.is("from " + owed[i], creditOf(99, 10, 20, owed[i]), due[i]);
        }
        Due.is("the most there is", creditOf(999, 999, 999, 0), 999);
        Due.is("the most of a wide one", creditOf(999, 1, 999, 0), 999);
        DebtDowry x = Due.townOf("i0 0;c99 10 20 4;g3;");
        Due.is("so much", x.borrow(0, 0, x.credit(0, 0)), 20);
        Due.is("civil then", x.temper(0, 0), 1);
    }

    /** "that he may BORROW" */
    private static void creditByThePurse() {
        int[] purse = {0, 9, 10, 11, 19, 20, 21};
        int[] due = {NONE, NONE, 10, 11, 19, 20, 20};
        for (int i = 0; i < purse.length; i++) {
            Due.is("by a purse of " + purse[i], creditOf(purse[i], 10, 20, 0), due[i]);
        }
        DebtDowry x = Edge.rich();
        Due.is("by the fullest purse", x.credit(1, 0), 999);
        Due.is("of who owes the most", x.credit(0, 0), NONE);
    }

    /** "NONE: by no sum" */
    private static void creditByNoSum() {
        Due.is("more than B", creditOf(999, 10, 20, 21), NONE);
        Due.is("a purse one short", creditOf(9, 10, 20, 0), NONE);
        DebtDowry x = Due.townOf("i0 0;c5 10 20 4;c99 10 20 4;g10,15;m15,15;m0,30;");
        x.pay(0, 1, 1);
        Due.is("an insult", x.credit(0, 1), NONE);
        Due.is("not of the other", x.credit(0, 0), 5);
        x.wed(0, 1);
        Due.is("a man who is wed, and a small purse", x.credit(1, 0), NONE);
        Due.is("a man who is wed, and a great purse", x.credit(1, 1), NONE);
        DebtDowry coin = Due.townOf("i0 0;c1 1 1 4;g0;m0;");
        Due.is("a coin", coin.credit(1, 0), 1);
        coin.wed(0, 1);
        Due.is("a coin for a man who is wed", coin.credit(1, 0), NONE);
        Due.is("a coin for his wife", coin.credit(0, 0), 1);
        DebtDowry y = Due.townOf("i0 0;c5 10 20 4;c99 10 20 4;g10,15;m21,15;");
        y.quarter(1);
        Due.is("he failed", y.told(9), 1);
        Due.is("of one who failed", y.credit(0, 0), NONE);
        Due.is("of the other", y.credit(0, 1), 5);
    }

    /** "in n QUARTERS (0 .. 60)" */
    private static void rumoursZeroToSixty() {
        DebtDowry x = new DebtDowry();
        Due.is("rumours(-1, 50)", x.rumours(-1, 50), OUTSIDE);
        Due.is("rumours(0, 50)", x.rumours(0, 50), 1000000000);
        Due.is("rumours(1, 50)", x.rumours(1, 50), 500000000);
        Due.is("rumours(59, 1)", x.rumours(59, 1), byHand(59, 1));
        Due.is("rumours(60, 1)", x.rumours(60, 1), byHand(60, 1));
        Due.is("rumours(61, 1)", x.rumours(61, 1), OUTSIDE);
        Due.is("rumours(61, 100)", x.rumours(61, 100), OUTSIDE);
    }

    /** "each by q of a hundred (0 .. 100)" */
    private static void rumoursZeroToHundred() {
        DebtDowry x = new DebtDowry();
        Due.is("rumours(5, -1)", x.rumours(5, -1), OUTSIDE);
        Due.is("rumours(60, 0)", x.rumours(60, 0), 1000000000);
        Due.is("rumours(1, 1)", x.rumours(1, 1), 990000000);
        Due.is("rumours(1, 99)", x.rumours(1, 99), 10000000);
        Due.is("rumours(1, 100)", x.rumours(1, 100), 0);
        Due.is("rumours(60, 100)", x.rumours(60, 100), 0);
        Due.is("rumours(0, 100)", x.rumours(0, 100), 1000000000);
        Due.is("rumours(1, 101)", x.rumours(1, 101), OUTSIDE);
        Due.is("rumours(0, 101)", x.rumours(0, 101), OUTSIDE);
    }

    /** "a BILLION times (100 less q) / 100 each (cut)" */
    private static void rumoursAreCutEach() {
        DebtDowry x = new DebtDowry();
        Due.is("cut in the middle, not at the end", x.rumours(6, 33), 90458381);
        Due.is("down to ten", x.rumours(4, 99), 10);
        Due.is("down to nothing", x.rumours(5, 99), 0);
        for (int q = 0; q <= 100; q += 4) {
            for (int n = 0; n <= 60; n += 4) {
                Due.is("rumours(" + n + ", " + q + ")", x.rumours(n, q), byHand(n, q));
            }
        }
    }

    private static long byHand(int n, int q) {
        long odds = 1000000000L;
        for (int i = 0; i < n; i++) {
            odds = (odds * (100 - q) - odds * (100 - q) % 100) / 100;
        }
        return odds;
    }
}
