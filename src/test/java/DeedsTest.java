/** Promises 10 to 16: what is borrowed and paid, quarters, weddings, divorces, and what is undone. */
public final class DeedsTest {
    private static final int NONE = DebtDowry.NONE;
    private static final int UNKNOWN = DebtDowry.UNKNOWN;
    private static final int OUTSIDE = DebtDowry.OUTSIDE;
    private static final int NOT = DebtDowry.NOT;
    private static final int FULL = DebtDowry.FULL;

    private static final String TOWN = "i10 50;c100 10 50 4;c30 20 40 7;g20,25;m60,0;g0,0;m10,45;";

    public static void main(String[] args) {
        borrowed();
        paid();
        insultedByMore();
        purseUpToTheMost();
        quarters();
        failingAllAtOnce();
        quartersAreFull();
        wedded();
        insultsOfTheWed();
        weddedUpToTheMost();
        divorced();
        drifted();
        driftWithoutPersons();
        driftRefused();
        undone();
        undoneAtMostThirty();
        undoKeepsTheSeed();
        Due.end();
    }

    private static void borrowed() {
        DebtDowry x = Due.townOf(TOWN);
        Due.is("borrow(2, 0, 10)", x.borrow(2, 0, 10), 10);
        Due.is("purse", x.creditor(0, 0), 90);
        Due.is("standing", x.person(2, 3), 4);
        Due.is("more than the purse", x.borrow(2, 1, 31), NOT);
        Due.is("all of the purse", x.borrow(2, 1, 30), 30);
        Due.is("an empty purse", x.borrow(2, 1, 1), NOT);
        Due.is("no coins", x.borrow(0, 0, 0), OUTSIDE);
        Due.is("fewer", x.borrow(0, 0, -5), OUTSIDE);
        Due.is("too many", x.borrow(0, 0, 1000), OUTSIDE);
        Due.is("not so many", x.borrow(0, 0, 999), NOT);
        Due.is("no such person", x.borrow(4, 0, 0), UNKNOWN);
        Due.is("no such creditor", x.borrow(0, 2, 1000), UNKNOWN);
        Due.is("below all", x.borrow(-1, -1, 1), UNKNOWN);
        Due.is("only two deeds", x.told(13), 2);
        x.wed(0, 1);
        Due.is("a man who is wed", x.borrow(1, 0, 1), NOT);
        Due.is("out of bounds first", x.borrow(1, 0, 0), OUTSIDE);
        Due.is("his wife may", x.borrow(0, 0, 1), 81);
        x.quarter(1);
        Due.is("one failed", x.told(9), 2);
        Due.is("of one who failed", x.borrow(0, 1, 1), NOT);
    }

    private static void paid() {
        DebtDowry x = Due.townOf(TOWN);
        Due.is("half is no insult", x.pay(0, 0, 10), 10);
        Due.is("purse", x.creditor(0, 0), 110);
        Due.is("no insult", x.person(0, 4), 0);
        Due.is("civil", x.temper(0, 0), 1);
        Due.is("more than is owed", x.pay(0, 0, 11), NOT);
        Due.is("no coins", x.pay(0, 0, 0), OUTSIDE);
        Due.is("too many", x.pay(0, 0, 10000), OUTSIDE);
        Due.is("not so many", x.pay(0, 0, 9999), NOT);
        Due.is("no such person", x.pay(4, 0, 0), UNKNOWN);
        Due.is("no such creditor", x.pay(0, 2, 10000), UNKNOWN);
        Due.is("who owes nothing", x.pay(1, 1, 1), NOT);
        Due.is("one deed", x.told(13), 1);
        Due.is("all that is owed", x.pay(0, 0, 10), 0);
        Due.is("that is an insult", x.person(0, 4), 1);
    }

    private static void insultedByMore() {
        DebtDowry x = Due.townOf(TOWN);
        Due.is("more than half", x.pay(1, 0, 31), 29);
        Due.is("insulted", x.person(1, 4), 1);
        Due.is("cold, though A to B is owed", x.temper(1, 0), 0);
        Due.is("a part of it", x.pay(0, 1, 13), 12);
        Due.is("13 of 25 is more than half", x.person(0, 4), 2);
        Due.is("12 of 45 is not", x.pay(3, 1, 12), 33);
        Due.is("not insulted", x.person(3, 4), 0);
        x.quarter(1);
        Due.is("forgotten", x.person(1, 4), 0);
        Due.is("civil then", x.temper(1, 0), 1);
        DebtDowry all = Due.townOf("i0 0;c0 1 9 1;g5;");
        all.pay(0, 0, 1);
        Due.is("of none of a hundred any coin is more", all.temper(0, 0), 0);
        DebtDowry never = Due.townOf("i0 100;c0 1 9 1;g5;");
        never.pay(0, 0, 5);
        Due.is("all is not more than all", never.person(0, 4), 0);
    }

    private static void purseUpToTheMost() {
        DebtDowry y = rich();
        Due.is("a full purse", y.creditor(0, 0), 9999);
        Due.is("owed at most", y.owes(0, 0), 9999);
        Due.is("borrowed above the most is forgiven", y.borrow(0, 0, 999), 9999);
        Due.is("and gone from the purse", y.creditor(0, 0), 9000);
        Due.is("paid", y.pay(0, 0, 999), 9000);
        Due.is("the purse is full", y.creditor(0, 0), 9999);
        Due.is("paid beyond it", y.pay(0, 0, 9000), 0);
        Due.is("is lost", y.creditor(0, 0), 9999);
    }

    /** Many who are civil each quarter pay one, till his purse is full; then one owes him the most. */
    private static DebtDowry rich() {
        DebtDowry x = Due.townOf("i30 100;c999 1 999 1;g768;m768;g768;m768;g768;m768;g768;m768;");
        for (int round = 0; round < 6; round++) {
            x.quarter(1);
            for (int p = 0; p < 8; p++) {
                int owed = x.owes(p, 0);
                x.pay(p, 0, Math.max(1, owed - 768));
            }
        }
        for (int p = 1; p < 8; p++) {
            x.pay(p, 0, x.owes(p, 0));
        }
        int guard = 0;
        while (x.owes(0, 0) < 9999 && guard < 20) {
            guard++;
            x.quarter(1);
        }
        Due.is("nobody failed", x.told(9), 0);
        return x;
    }

    private static void quarters() {
        DebtDowry x = Due.townOf(TOWN);
        Due.is("quarter(1)", x.quarter(1), 1);
        Due.is("failed", x.told(9), 2);
        int[] due = {22, 0, 66, 0, 0, 0, 11, 0};
        for (int i = 0; i < 8; i++) {
            Due.is("owes(" + i / 2 + ", " + i % 2 + ")", x.owes(i / 2, i % 2), due[i]);
        }
        Due.is("quarter(4)", x.quarter(4), 0);
        Due.is("interest is cut each time", x.owes(0, 0), 30);
        Due.is("94 is not above 100", x.owes(1, 0), 94);
        Due.is("quarter(1) again", x.quarter(1), 1);
        Due.is("all failed", x.told(9), 3);
        Due.is("nothing is owed", x.told(10), 0);
        Due.is("quarters", x.told(6), 6);
        Due.is("quarter(0)", x.quarter(0), OUTSIDE);
        Due.is("quarter(21)", x.quarter(21), OUTSIDE);
        Due.is("quarter(-1)", x.quarter(-1), OUTSIDE);
        Due.is("quarter(20)", x.quarter(20), 0);
        Due.is("quarters then", x.told(6), 26);
        DebtDowry edge = Due.townOf("i0 0;c21 10 20 1;c20 10 20 1;g21,21;");
        Due.is("as much as the purse is not above it", edge.quarter(20), 1);
        Due.is("the other failed", edge.told(9), 2);
    }

    private static void failingAllAtOnce() {
        DebtDowry x = Due.townOf("i0 0;c40 10 20 1;c5 10 20 1;c41 10 20 1;g21,21,21;m20,0,21;g21,0,20;m300,20,0;");
        x.pay(3, 0, 1);
        Due.is("cold ahead", x.temper(3, 0), 0);
        Due.is("three fail by sums of many", x.quarter(1), 3);
        Due.is("which", x.told(9), 7);
        DebtDowry many = Due.townOf("i0 100;c41 10 20 1;g21;m21;");
        Due.is("together above the purse", many.quarter(1), 1);
        DebtDowry few = Due.townOf("i0 100;c42 10 20 1;g21;m21;");
        Due.is("together as the purse", few.quarter(1), 0);
    }

    private static void quartersAreFull() {
        DebtDowry x = Due.townOf("i0 0;");
        for (int i = 0; i < 450; i++) {
            x.quarter(20);
        }
        Due.is("quarters", x.told(6), 9000);
        Due.is("9000 is not above 9000", x.quarter(1), 0);
        Due.is("quarter(1)", x.quarter(1), FULL);
        Due.is("drift(1)", x.drift(1), FULL);
        Due.is("quarter(0)", x.quarter(0), OUTSIDE);
        Due.is("drift(0)", x.drift(0), OUTSIDE);
        Due.is("undo(1)", x.undo(1), 9000);
        Due.is("drift(20)", x.drift(20), 0);
        Due.is("quarters then", x.told(6), 9020);
        Due.is("drift(20) again", x.drift(20), FULL);
    }

    private static void wedded() {
        DebtDowry x = Due.townOf(TOWN);
        Due.is("two girls", x.wed(0, 2), UNKNOWN);
        Due.is("two men", x.wed(1, 3), UNKNOWN);
        Due.is("turned round", x.wed(1, 0), UNKNOWN);
        Due.is("no such girl", x.wed(4, 1), UNKNOWN);
        Due.is("no such man", x.wed(0, -1), UNKNOWN);
        Due.is("wed(2, 3)", x.wed(2, 3), 13);
        Due.is("she owes what he did", x.owes(2, 1), 45);
        Due.is("he owes nothing", x.person(3, 2), 0);
        Due.is("her standing", x.person(2, 3), 3);
        Due.is("his standing", x.person(3, 3), 0);
        Due.is("she is wed", x.wed(2, 1), NOT);
        Due.is("he is wed", x.wed(0, 3), NOT);
        Due.is("no man at all", x.wed(2, 9), UNKNOWN);
        Due.is("wed(0, 1)", x.wed(0, 1), 16);
        Due.is("both sums", x.owes(0, 0), 80);
        Due.is("all are wed", x.told(8), 15);
        Due.is("two deeds", x.told(13), 2);
    }

    private static void insultsOfTheWed() {
        DebtDowry x = Due.townOf("i0 10;c50 5 90 4;c50 5 90 7;c50 5 90 2;g20,20,20;m30,30,30;");
        x.pay(0, 0, 5);
        x.pay(1, 1, 5);
        Due.is("joined with both insults", x.joined(0, 1), 12);
        Due.is("wed with both insults", x.wed(0, 1), 12);
        Due.is("all insults are hers", x.person(0, 4), 3);
        Due.is("his are hers now", x.person(1, 4), 0);
        x.pay(0, 2, 10);
        Due.is("divorce", x.divorce(0), 22 + 22 + 20);
        Due.is("hers then", x.person(0, 4), 7);
        Due.is("his then", x.person(1, 4), 7);
        x.quarter(1);
        Due.is("forgotten by her", x.person(0, 4), 0);
        Due.is("forgotten by him", x.person(1, 4), 0);
    }

    private static void weddedUpToTheMost() {
        DebtDowry x = rich();
        Due.is("borrow(1, 0, 5)", x.borrow(1, 0, 5), 5);
        Due.is("wed(0, 1)", x.wed(0, 1), 9);
        Due.is("at most", x.owes(0, 0), 9999);
        Due.is("divorce(0)", x.divorce(0), 4999);
        Due.is("the rest", x.owes(0, 0), 5000);
    }

    private static void divorced() {
        DebtDowry x = Due.townOf(TOWN);
        Due.is("who is not wed", x.divorce(0), NOT);
        Due.is("a man", x.divorce(1), UNKNOWN);
        Due.is("nobody", x.divorce(4), UNKNOWN);
        Due.is("below all", x.divorce(-1), UNKNOWN);
        x.wed(0, 3);
        Due.is("a man who is wed", x.divorce(3), UNKNOWN);
        x.borrow(0, 0, 1);
        Due.is("divorce(0)", x.divorce(0), 15 + 35);
        Due.is("she, of the odd sum", x.owes(0, 0), 16);
        Due.is("he, of the odd sum", x.owes(3, 0), 15);
        Due.is("she, of the even sum", x.owes(0, 1), 35);
        Due.is("he, of the even sum", x.owes(3, 1), 35);
        Due.is("nobody is wed", x.told(8), 0);
        Due.is("her man", x.person(0, 1), NONE);
        Due.is("his wife", x.person(3, 1), NONE);
        Due.is("again", x.divorce(0), NOT);
        Due.is("three deeds", x.told(13), 3);
    }

    private static void drifted() {
        // From 0 the seed becomes 12345, 1406932606, 654583775: draws 0, 21468, 9988.
        DebtDowry x = Due.townOf("i0 0;c100 1 99 1;c90 1 99 1;c80 1 99 1;g0,0,0;m0,0,0;");
        Due.is("drift(1)", x.drift(1), 88);
        Due.is("the seed", x.seed(0), 654583775);
        Due.is("owes(0, 0)", x.owes(0, 0), 88);
        Due.is("purse", x.creditor(0, 0), 12);
        Due.is("quarters", x.told(6), 1);
        Due.is("one deed", x.told(13), 1);
        Due.is("drift(1) again", x.drift(1), 88);
        Due.is("the purse has less", x.creditor(0, 0), 12);
        Due.is("drawn all the same", x.seed(5), 654583775);
        Due.is("undo(1)", x.undo(1), 1);
        Due.is("undo(1) again", x.undo(1), 0);
        Due.is("what was drawn is undone", x.owes(0, 0), 0);
        Due.is("its purse too", x.creditor(0, 0), 100);
        DebtDowry interest = Due.townOf("i10 0;c100 1 99 1;c90 1 99 1;c80 1 99 1;g0,0,0;m0,0,0;");
        Due.is("borrowed ahead of the quarter", interest.drift(1), 96);
    }

    private static void driftWithoutPersons() {
        DebtDowry x = Due.townOf("i0 0;c100 1 99 1;");
        x.seed(42);
        Due.is("drift(20)", x.drift(20), 0);
        Due.is("nothing is drawn", x.seed(0), 42);
        Due.is("quarters", x.told(6), 20);
        Due.is("deeds", x.told(13), 20);
    }

    private static void driftRefused() {
        DebtDowry x = Due.townOf(TOWN);
        x.seed(42);
        Due.is("drift(0)", x.drift(0), OUTSIDE);
        Due.is("drift(21)", x.drift(21), OUTSIDE);
        Due.is("nothing is drawn", x.seed(0), 42);
        Due.is("no quarters", x.told(6), 0);
        DebtDowry wed = Due.townOf("i0 0;c100 1 99 1;m0;g0;");
        wed.wed(1, 0);
        Due.is("a man who is wed borrows nothing", wed.drift(1), 0);
    }

    private static void undone() {
        DebtDowry x = Due.townOf(TOWN);
        Due.is("undo(0)", x.undo(0), OUTSIDE);
        Due.is("undo(31)", x.undo(31), OUTSIDE);
        Due.is("undo(1)", x.undo(1), NOT);
        x.pay(0, 0, 11);
        x.wed(2, 3);
        x.divorce(2);
        x.borrow(0, 0, 3);
        x.quarter(2);
        Due.is("told(13)", x.told(13), 6);
        Due.is("undo(7)", x.undo(7), NOT);
        Due.is("undo(1) of a quarter", x.undo(1), 1);
        Due.is("told(9)", x.told(9), 0);
        Due.is("undo(1) of the other", x.undo(1), 0);
        Due.is("borrowed is there", x.owes(0, 0), 12);
        Due.is("undo(1) of what was borrowed", x.undo(1), 0);
        Due.is("owes(0, 0)", x.owes(0, 0), 9);
        Due.is("purse", x.creditor(0, 0), 111);
        Due.is("owes(3, 1)", x.owes(3, 1), 22);
        Due.is("undo(1) of the divorce", x.undo(1), 0);
        Due.is("told(8)", x.told(8), 12);
        Due.is("owes(2, 1)", x.owes(2, 1), 45);
        Due.is("undo(2)", x.undo(2), 0);
        Due.is("told(8) then", x.told(8), 0);
        Due.is("owes(0, 0) then", x.owes(0, 0), 20);
        Due.is("insults then", x.person(0, 4), 0);
        Due.is("purse then", x.creditor(0, 0), 100);
        Due.is("told(13) then", x.told(13), 0);
        x.quarter(5);
        x.card(0, 0, 1, true);
        x.write(0, 1);
        Due.is("undo(4)", x.undo(4), 1);
        Due.is("failed is undone by the right one", x.told(9), 2);
        Due.is("cards stay", x.told(11), 1);
        Due.is("the book stays", x.told(12), 1);
    }

    private static void undoneAtMostThirty() {
        DebtDowry x = Due.townOf("i0 0;c999 1 999 1;g0;");
        for (int i = 1; i <= 45; i++) {
            x.borrow(0, 0, 1);
            Due.is("told(13)", x.told(13), Math.min(30, i));
        }
        Due.is("undo(30)", x.undo(30), 0);
        Due.is("owes", x.owes(0, 0), 15);
        Due.is("undo(1)", x.undo(1), NOT);
        x.quarter(20);
        x.quarter(20);
        Due.is("told(13) of quarters", x.told(13), 30);
        Due.is("undo(29)", x.undo(29), 11);
        Due.is("undo(2)", x.undo(2), NOT);
        Due.is("undo(1) at last", x.undo(1), 10);
    }

    private static void undoKeepsTheSeed() {
        DebtDowry x = Due.townOf(TOWN);
        x.drift(3);
        int seed = x.seed(7);
        Due.isTrue("drawn", seed != 0);
        Due.is("undo(3)", x.undo(3), 0);
        Due.is("the seed stays", x.seed(0), 7);
    }
}
