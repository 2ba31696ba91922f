/** Promises 25 to 33: cards, the book, the seed and images. */
public final class CardsTest {
    private static final int NONE = DebtDowry.NONE;
    private static final int UNKNOWN = DebtDowry.UNKNOWN;
    private static final int OUTSIDE = DebtDowry.OUTSIDE;
    private static final int NOT = DebtDowry.NOT;
    private static final int FULL = DebtDowry.FULL;

    private static final String TOWN = "i10 50;c100 10 50 4;c30 20 40 7;g20,25;m60,0;g0,0;m10,45;";

    public static void main(String[] args) {
        cardsAreCounted();
        hadBySums();
        hadByFailedOnes();
        lookAtParts();
        lookAtByTrial();
        bookIsCounted();
        judged();
        torn();
        seeds();
        imagesKept();
        imagesKeepTheSeed();
        imagesWithoutTown();
        Due.end();
    }

    private static void cardsAreCounted() {
        DebtDowry x = Due.townOf(TOWN);
        Due.is("card(4, 0, 13, true)", x.card(4, 0, 13, true), UNKNOWN);
        Due.is("card(0, 2, 0, true)", x.card(0, 2, 0, true), UNKNOWN);
        Due.is("card(-1, 0, 0, true)", x.card(-1, 0, 0, true), UNKNOWN);
        Due.is("card(0, 0, -1, true)", x.card(0, 0, -1, true), OUTSIDE);
        Due.is("card(0, 0, 13, true)", x.card(0, 0, 13, true), OUTSIDE);
        for (int i = 1; i <= 6; i++) {
            Due.is("card " + i, x.card(i % 4, i % 2, 12, i % 3 == 0), i);
        }
        Due.is("card 7", x.card(0, 0, 0, true), FULL);
        Due.is("card 7 out of bounds", x.card(0, 0, 13, true), OUTSIDE);
        Due.is("card 7 of nobody", x.card(0, 2, 0, true), UNKNOWN);
        Due.is("told(11)", x.told(11), 6);
    }

    private static void hadBySums() {
        DebtDowry x = Due.townOf(TOWN);
        Due.is("had(4, 0, 3)", x.had(4, 0, 3), UNKNOWN);
        Due.is("had(0, 2, 0)", x.had(0, 2, 0), UNKNOWN);
        Due.is("had(0, 0, 3)", x.had(0, 0, 3), OUTSIDE);
        Due.is("had(0, 0, -1)", x.had(0, 0, -1), OUTSIDE);
        Due.is("without cards", x.had(0, 0, 0), 100);
        Due.is("least", x.had(0, 0, 1), 0);
        Due.is("most", x.had(0, 0, 2), 99);
        x.card(0, 0, 0, true);
        Due.is("A to B", x.had(0, 0, 0), 41);
        Due.is("A", x.had(0, 0, 1), 10);
        Due.is("B", x.had(0, 0, 2), 50);
        x.card(0, 0, 1, false);
        // 46 becomes 50, 47 becomes 51; 10 becomes 11.
        Due.is("too much behind one quarter", x.had(0, 0, 0), 4);
        Due.is("least of these", x.had(0, 0, 1), 47);
        Due.is("another with this one", x.had(1, 0, 0), 100);
        Due.is("this with another", x.had(0, 1, 0), 100);
        x.card(0, 0, 0, false);
        Due.is("none fits", x.had(0, 0, 0), 0);
        Due.is("no least", x.had(0, 0, 1), NONE);
        Due.is("no most", x.had(0, 0, 2), NONE);
        x.card(1, 0, 2, true);
        // 9 stays 9; 10 becomes 11, 12; 42 becomes 46, 50.
        Due.is("behind two quarters", x.had(1, 0, 1), 10);
        Due.is("behind two quarters, most", x.had(1, 0, 2), 42);
        x.borrow(1, 0, 5);
        Due.is("what is owed now does not matter", x.had(1, 0, 0), 33);
    }

    private static void hadByFailedOnes() {
        DebtDowry x = Due.townOf("i0 50;c5 10 50 4;g60;");
        x.card(0, 0, 0, true);
        x.quarter(1);
        Due.is("he failed", x.told(9), 1);
        Due.is("as told all the same", x.had(0, 0, 0), 41);
        Due.is("lookAt all the same", x.lookAt(0, 0), NONE);
        Due.is("a card of one who failed", x.card(0, 0, 12, false), 2);
        Due.is("none fits", x.had(0, 0, 0), 0);
    }

    private static void lookAtParts() {
        DebtDowry x = Due.townOf(TOWN);
        Due.is("lookAt(4, 0)", x.lookAt(4, 0), UNKNOWN);
        Due.is("lookAt(0, 2)", x.lookAt(0, 2), UNKNOWN);
        Due.is("lookAt(-1, 0)", x.lookAt(-1, 0), UNKNOWN);
        Due.is("lookAt(0, -1)", x.lookAt(0, -1), UNKNOWN);
        DebtDowry still = Due.townOf("i0 50;c5 10 50 4;c5 100 200 4;c5 99 99 4;g60,0,0;");
        Due.is("of like ones the least", still.lookAt(0, 0), 0);
        Due.is("none is civil by any", still.lookAt(0, 1), NONE);
        Due.is("one of a hundred", still.lookAt(0, 2), 0);
        still.card(0, 2, 5, true);
        Due.is("a single sum, least", still.had(0, 2, 1), 99);
        Due.is("a single sum, most", still.had(0, 2, 2), 99);
        Due.is("one cannot be parted", still.lookAt(0, 2), NONE);
        still.card(0, 2, 6, false);
        Due.is("of none", still.lookAt(0, 2), NONE);
    }

    /** Against counting each quarter's parts from the start. */
    private static void lookAtByTrial() {
        for (int interest = 0; interest <= 30; interest += 5) {
            for (int low = 1; low < 400; low += 37) {
                int high = low + low / 2;
                DebtDowry x = Due.townOf("i" + interest + " 0;c0 " + low + " " + high + " 1;g0;");
                for (int cards = 0; cards < 3; cards++) {
                    int due = bestByTrial(x, interest, low, high);
                    Due.is("lookAt by " + interest + " of " + low + " with " + cards, x.lookAt(0, 0), due);
                    x.card(0, 0, Math.max(0, due), (low + cards) % 2 == 0);
                }
            }
        }
    }

    private static int bestByTrial(DebtDowry x, int interest, int low, int high) {
        boolean[] fits = new boolean[100];
        int all = x.had(0, 0, 0);
        int least = x.had(0, 0, 1);
        int most = x.had(0, 0, 2);
        int seen = 0;
        for (int sum = 0; sum < 100; sum++) {
            fits[sum] = sum >= least && sum <= most;
            seen += fits[sum] ? 1 : 0;
        }
        if (all == 0 || seen != all) {
            return x.lookAt(0, 0);
        }
        int best = NONE;
        int bestPart = all;
        for (int q = 12; q >= 0; q--) {
            int civil = 0;
            for (int sum = 0; sum < 100; sum++) {
                int grown = sum;
                for (int i = 0; i < q; i++) {
                    grown += grown * interest / 100;
                }
                civil += fits[sum] && grown >= low && grown <= high ? 1 : 0;
            }
            int part = Math.max(civil, all - civil);
            if (part < all && part <= bestPart) {
                best = q;
                bestPart = part;
            }
        }
        return best;
    }

    private static void bookIsCounted() {
        DebtDowry x = Due.townOf(TOWN);
        Due.is("write(4, 100)", x.write(4, 100), UNKNOWN);
        Due.is("write(-1, 0)", x.write(-1, 0), UNKNOWN);
        Due.is("write(0, -10)", x.write(0, -10), OUTSIDE);
        Due.is("write(0, 100)", x.write(0, 100), OUTSIDE);
        Due.is("write(0, -9)", x.write(0, -9), 1);
        Due.is("write(0, 99)", x.write(0, 99), 2);
        for (int i = 3; i <= 20; i++) {
            Due.is("write " + i, x.write(i % 4, i), i);
        }
        Due.is("write 21", x.write(0, 0), FULL);
        Due.is("write 21 out of bounds", x.write(0, 100), OUTSIDE);
        Due.is("write 21 of nobody", x.write(4, 0), UNKNOWN);
        Due.is("told(12)", x.told(12), 20);
    }

    private static void judged() {
        DebtDowry x = Due.townOf(TOWN);
        Due.is("an empty book", x.judge(), NONE);
        x.write(0, 12);
        Due.is("the very first", x.judge(), 0);
        x.tear();
        x.write(0, 11);
        x.write(1, -1);
        x.write(2, 0);
        Due.is("all is right", x.judge(), NONE);
        x.write(3, 4);
        x.write(3, 5);
        Due.is("the first wrong one", x.judge(), 3);
        x.borrow(2, 0, 10);
        Due.is("as it is now", x.judge(), 2);
        x.undo(1);
        Due.is("as it was", x.judge(), 3);
    }

    private static void torn() {
        DebtDowry x = Due.townOf(TOWN);
        Due.is("nothing", x.tear(), 0);
        x.card(0, 0, 0, true);
        x.card(0, 0, 1, true);
        x.write(0, 0);
        Due.is("both", x.tear(), 3);
        Due.is("no cards", x.told(11), 0);
        Due.is("no book", x.told(12), 0);
        Due.is("judge()", x.judge(), NONE);
        Due.is("had()", x.had(0, 0, 0), 100);
        Due.is("again", x.tear(), 0);
        Due.is("a card again", x.card(0, 0, 0, false), 1);
    }

    private static void seeds() {
        DebtDowry x = new DebtDowry();
        Due.is("at first", x.seed(2147483647), 0);
        Due.is("the most", x.seed(0), 2147483647);
        Due.is("below 0", x.seed(-1), OUTSIDE);
        Due.is("least int", x.seed(Integer.MIN_VALUE), OUTSIDE);
        Due.is("refused", x.seed(5), 0);
        Due.is("five", x.seed(6), 5);
        DebtDowry y = Due.townOf(TOWN);
        y.seed(2147483647);
        y.drift(1);
        long seed = 2147483647L;
        for (int i = 0; i < 3; i++) {
            seed = (seed * 1103515245L + 12345L) % 2147483648L;
        }
        Due.is("three draws from the most", y.seed(0), seed);
    }

    private static void imagesKept() {
        DebtDowry x = Due.townOf(TOWN);
        Due.is("keep(2)", x.keep(2), UNKNOWN);
        Due.is("keep(-1)", x.keep(-1), UNKNOWN);
        Due.is("goBack(2)", x.goBack(2), UNKNOWN);
        Due.is("goBack(-1)", x.goBack(-1), UNKNOWN);
        Due.is("goBack(0)", x.goBack(0), NOT);
        x.pay(0, 0, 11);
        x.wed(2, 3);
        x.keep(2);
        Due.is("a refused one can be undone all the same", x.told(13), 2);
        Due.is("keep(1)", x.keep(1), 1);
        Due.is("nothing can be undone", x.told(13), 0);
        Due.is("undo(1)", x.undo(1), NOT);
        Due.is("the other is not kept", x.goBack(0), NOT);
        x.quarter(3);
        x.divorce(2);
        x.card(0, 0, 0, true);
        x.write(0, 0);
        Due.is("keep(0)", x.keep(0), 1);
        x.borrow(0, 0, 1);
        Due.is("goBack(1)", x.goBack(1), 1);
        Due.is("nothing can be undone then", x.undo(1), NOT);
        Due.is("quarters", x.told(6), 0);
        Due.is("failed", x.told(9), 0);
        Due.is("wed", x.told(8), 12);
        Due.is("insults", x.person(0, 4), 1);
        Due.is("owes", x.owes(2, 1), 45);
        Due.is("purse", x.creditor(0, 0), 111);
        Due.is("cards stay", x.told(11), 1);
        Due.is("the book stays", x.told(12), 1);
        Due.is("goBack(0)", x.goBack(0), 1);
        Due.is("quarters of the other", x.told(6), 3);
        Due.is("wed in the other", x.told(8), 0);
        x.quarter(1);
        Due.is("an image can be gone back to again", x.goBack(1), 1);
        Due.is("as kept", x.told(6), 0);
        x.borrow(0, 0, 1);
        x.keep(1);
        x.goBack(1);
        Due.is("kept anew", x.owes(0, 0), 10);
    }

    private static void imagesKeepTheSeed() {
        DebtDowry x = Due.townOf(TOWN);
        x.seed(77);
        x.keep(0);
        int first = x.drift(5);
        x.goBack(0);
        Due.is("the seed", x.seed(77), 77);
        Due.is("the same draws", x.drift(5), first);
    }

    private static void imagesWithoutTown() {
        DebtDowry x = new DebtDowry();
        x.seed(3);
        Due.is("keep(0)", x.keep(0), 1);
        x.seed(4);
        Due.is("goBack(0)", x.goBack(0), 1);
        Due.is("the seed", x.seed(0), 3);
        Due.is("no town", x.told(0), 0);
    }
}
