import java.util.function.ToIntFunction;

/** Section 3 of the document, what is kept: cards, the book, draws, what is undone, images; a test for each sentence. */
public final class KeptEdgeTest {
    private static final int NONE = DebtDowry.NONE;
    private static final int UNKNOWN = DebtDowry.UNKNOWN;
    private static final int OUTSIDE = DebtDowry.OUTSIDE;
    private static final int NOT = DebtDowry.NOT;
    private static final int FULL = DebtDowry.FULL;

    public static void main(String[] args) {
        atMostSixCards();
        cardsOfQuartersZeroToTwelve();
        hadSumsZeroTo99();
        hadByLowAndHigh();
        hadByInterestAlone();
        hadByCardsOfTheseTwo();
        hadNone();
        lookAtZeroToTwelve();
        lookAtPartsBest();
        lookAtOfLikeOnes();
        lookAtNone();
        atMostTwentyEntries();
        entriesFromMinus9To99();
        wrongIsTheFirst();
        tornIsEmpty();
        seedIsZeroAtFirst();
        seedIsLeftOver();
        drawsOfPersonsCreditorsAndCoins();
        drawsOfNobody();
        drawnIfItMayBe();
        drawnAheadOfEach();
        eachDeedIsUndone();
        thirtyDeedsAreKept();
        moreThanThirtyDeeds();
        undoneSinceTheText();
        undoneSinceTheImage();
        undoneButTheSeed();
        refusedIsNoDeed();
        imagesZeroAndOne();
        imagesKeepAllOfSectionTwo();
        imagesKeepTheSeed();
        imagesLeaveCardsAndBook();
        quartersAbove9000();
        Due.end();
    }

    /** "CARDS (6 at most)" */
    private static void atMostSixCards() {
        DebtDowry x = Due.townOf("i0 0;c9 50 60 1;g0;m0;");
        for (int i = 1; i <= 5; i++) {
            Due.is("card " + i, x.card(0, 0, 0, true), i);
        }
        Due.is("the sixth", x.card(1, 0, 0, true), 6);
        Due.is("the seventh", x.card(1, 0, 0, false), FULL);
        Due.is("once more", x.card(1, 0, 0, false), FULL);
        Due.is("six", x.told(11), 6);
        Due.is("the sixth counts, the seventh does not", x.had(1, 0, 0), 11);
        Due.is("torn", x.tear(), 6);
        Due.is("room again", x.card(1, 0, 0, false), 1);
        Due.is("and it counts", x.had(1, 0, 0), 89);
    }

    private static int behind(int sum, int interest, int quarters) {
        int grown = sum;
        for (int i = 0; i < quarters; i++) {
            grown += grown * interest / 100;
        }
        return grown;
    }

    /** "behind q QUARTERS (0 .. 12 ..)" */
    private static void cardsOfQuartersZeroToTwelve() {
        for (int q = 0; q <= 12; q++) {
            DebtDowry x = Due.townOf("i10 0;c9 100 999 1;g0;");
            Due.is("card of " + q, x.card(0, 0, q, true), 1);
            int many = 0;
            int least = NONE;
            for (int sum = 99; sum >= 0; sum--) {
                if (behind(sum, 10, q) >= 100) {
                    many++;
                    least = sum;
                }
            }
            Due.is("so many civil behind " + q, x.had(0, 0, 0), many);
            Due.is("the least behind " + q, x.had(0, 0, 1), least);
            Due.is("the most behind " + q, x.had(0, 0, 2), many == 0 ? NONE : 99);
        }
        DebtDowry x = Due.townOf("i10 0;c9 100 999 1;g0;");
        Due.is("card of -1", x.card(0, 0, -1, true), OUTSIDE);
        Due.is("card of 13", x.card(0, 0, 13, true), OUTSIDE);
    }

    /** "sums 0 to 99" */
    private static void hadSumsZeroTo99() {
        had("", 1, 999, NONE, false, 100, 0, 99);
        had("nothing alone", 1, 999, 0, false, 1, 0, 0);
        had("all but nothing", 1, 999, 0, true, 99, 1, 99);
        had("99 alone", 99, 999, 0, true, 1, 99, 99);
        had("all but 99", 99, 999, 0, false, 99, 0, 98);
        had("100 is too many", 100, 999, 0, true, 0, NONE, NONE);
        had("all are below 100", 100, 999, 0, false, 100, 0, 99);
    }

    private static void had(String name, int low, int high, int q, boolean civil, int many, int least, int most) {
        DebtDowry x = Due.townOf("i0 0;c9 " + low + " " + high + " 1;g500;");
        if (q != NONE) {
            x.card(0, 0, q, civil);
        }
        Due.is("how many: " + name, x.had(0, 0, 0), many);
        Due.is("the least: " + name, x.had(0, 0, 1), least);
        Due.is("the most: " + name, x.had(0, 0, 2), most);
    }

    /** "(A to B as told)" */
    private static void hadByLowAndHigh() {
        had("A to B", 20, 30, 0, true, 11, 20, 30);
        had("not A to B", 20, 30, 0, false, 89, 0, 99);
        had("A is B", 20, 20, 0, true, 1, 20, 20);
        had("not A is B", 20, 20, 0, false, 99, 0, 99);
        had("behind twelve without interest", 20, 30, 12, true, 11, 20, 30);
    }

    /** "as INTEREST is, nothing else done, nobody failing, no INSULTS", "instead of what is owed now" */
    private static void hadByInterestAlone() {
        // 18 becomes 19 and 20, 27 becomes 29 and 31, 26 becomes 28 and 30.
        DebtDowry x = Due.townOf("i10 0;c5 20 30 1;g99;m0;");
        x.card(0, 0, 2, true);
        for (int round = 0; round < 4; round++) {
            Due.is("least, round " + round, x.had(0, 0, 1), 18);
            Due.is("most, round " + round, x.had(0, 0, 2), 26);
            Due.is("how many, round " + round, x.had(0, 0, 0), 9);
            if (round == 0) {
                x.pay(0, 0, 1);
                Due.is("an insult", x.person(0, 4), 1);
            } else if (round == 1) {
                x.borrow(0, 0, 3);
            } else {
                x.quarter(1);
                Due.is("he failed", x.told(9), 1);
            }
        }
    }

    /** "by all CARDS of these two" */
    private static void hadByCardsOfTheseTwo() {
        DebtDowry x = Due.townOf("i0 0;c9 20 30 1;c9 25 40 1;g0,0;m0,0;");
        x.card(0, 0, 0, true);
        x.card(1, 1, 0, true);
        x.card(0, 1, 0, false);
        Due.is("girl with the first", x.had(0, 0, 0), 11);
        Due.is("girl with the second", x.had(0, 1, 0), 84);
        Due.is("man with the first: no card", x.had(1, 0, 0), 100);
        Due.is("man with the second", x.had(1, 1, 0), 16);
        DebtDowry y = Due.townOf("i20 0;c9 20 30 1;g0;");
        y.card(0, 0, 0, true);
        y.card(0, 0, 1, true);
        y.card(0, 0, 2, false);
        // 20 to 25 stay civil behind one quarter; 20 becomes 24, 28; 21 becomes 25, 30; 22 becomes 26, 31.
        Due.is("three cards", y.had(0, 0, 0), 4);
        Due.is("the least", y.had(0, 0, 1), 22);
        Due.is("the most", y.had(0, 0, 2), 25);
    }

    /** "how many; the least; the most; NONE" */
    private static void hadNone() {
        DebtDowry x = Due.townOf("i0 0;c9 20 30 1;g25;");
        x.card(0, 0, 3, true);
        x.card(0, 0, 3, false);
        Due.is("how many", x.had(0, 0, 0), 0);
        Due.is("the least", x.had(0, 0, 1), NONE);
        Due.is("the most", x.had(0, 0, 2), NONE);
        Due.is("had(0, 0, 3)", x.had(0, 0, 3), OUTSIDE);
        Due.is("had(0, 0, -1)", x.had(0, 0, -1), OUTSIDE);
    }

    /** "of QUARTERS 0 to 12 the one" */
    private static void lookAtZeroToTwelve() {
        for (int q = 0; q <= 13; q++) {
            // Only 99 comes so far in q quarters, and no sum ahead of that.
            int low = behind(99, 10, q);
            DebtDowry x = Due.townOf("i10 0;c9 " + low + " " + low + " 1;g0;");
            int due = NONE;
            for (int look = 12; look >= 0; look--) {
                boolean parts = false;
                for (int sum = 0; sum <= 99; sum++) {
                    parts |= behind(sum, 10, look) == low;
                }
                due = parts ? look : due;
            }
            Due.is("the first quarter to reach " + low, due, q <= 12 ? q : NONE);
            Due.is("lookAt by " + low, x.lookAt(0, 0), due);
        }
    }

    /** "these are parted best: the greatest part is least" */
    private static void lookAtPartsBest() {
        for (int interest : new int[] {1, 5, 10, 17, 30}) {
            for (int low = 1; low <= 900; low += 53) {
                int high = Math.min(999, 2 * low);
                DebtDowry x = Due.townOf("i" + interest + " 0;c9 " + low + " " + high + " 1;g0;");
                int best = NONE;
                int bestPart = 100;
                for (int q = 0; q <= 12; q++) {
                    int civil = 0;
                    for (int sum = 0; sum <= 99; sum++) {
                        int grown = behind(sum, interest, q);
                        civil += grown >= low && grown <= high ? 1 : 0;
                    }
                    if (Math.max(civil, 100 - civil) < bestPart) {
                        best = q;
                        bestPart = Math.max(civil, 100 - civil);
                    }
                }
                Due.is("lookAt by " + low + " to " + high + " and " + interest, x.lookAt(0, 0), best);
            }
        }
        // Fifty and fifty at once: none can be better.
        DebtDowry half = Due.townOf("i10 0;c9 50 999 1;g0;");
        Due.is("the halves", half.lookAt(0, 0), 0);
        half.card(0, 0, 0, false);
        // 0 to 49 are left. Behind 8 quarters 25 and more reach 50.
        Due.is("the lower half", half.lookAt(0, 0), bestOfLowerHalf());
    }

    private static int bestOfLowerHalf() {
        int best = NONE;
        int bestPart = 50;
        for (int q = 0; q <= 12; q++) {
            int civil = 0;
            for (int sum = 0; sum < 50; sum++) {
                civil += behind(sum, 10, q) >= 50 ? 1 : 0;
            }
            if (Math.max(civil, 50 - civil) < bestPart) {
                best = q;
                bestPart = Math.max(civil, 50 - civil);
            }
        }
        return best;
    }

    /** "of like ones the least" */
    private static void lookAtOfLikeOnes() {
        DebtDowry still = Due.townOf("i0 0;c9 30 60 1;g0;");
        Due.is("all thirteen are alike", still.lookAt(0, 0), 0);
        // Of 9 and 10 only 10 grows: 11, 12, 13, 14; A is reached behind one quarter, and stays so.
        DebtDowry two = Due.townOf("i10 0;c9 11 999 1;g0;");
        two.card(0, 0, 0, false);
        Due.is("0 to 10 are left", two.had(0, 0, 2), 10);
        Due.is("one of eleven from the first quarter on", two.lookAt(0, 0), 1);
    }

    /** "NONE: none parts them" */
    private static void lookAtNone() {
        DebtDowry far = Due.townOf("i0 0;c9 100 999 1;g0;");
        Due.is("no sum is civil in any", far.lookAt(0, 0), NONE);
        DebtDowry one = Due.townOf("i30 0;c9 99 999 1;g0;");
        one.card(0, 0, 0, true);
        Due.is("a single sum", one.had(0, 0, 0), 1);
        Due.is("a single sum cannot be parted", one.lookAt(0, 0), NONE);
        one.card(0, 0, 0, false);
        Due.is("no sum", one.had(0, 0, 0), 0);
        Due.is("of no sum", one.lookAt(0, 0), NONE);
        DebtDowry all = Due.townOf("i0 0;c9 20 30 1;g0;");
        all.card(0, 0, 5, true);
        Due.is("all are civil in each", all.lookAt(0, 0), NONE);
        DebtDowry two = Due.townOf("i0 0;c9 98 999 1;g0;");
        two.card(0, 0, 5, false);
        Due.is("none is civil in any", two.lookAt(0, 0), NONE);
    }

    /** "THE BOOK (20 at most)" */
    private static void atMostTwentyEntries() {
        DebtDowry x = Due.townOf("i0 0;c9 1 2 3;g1;m0;");
        for (int i = 1; i <= 19; i++) {
            Due.is("entry " + i, x.write(0, 3), i);
        }
        Due.is("none is wrong", x.judge(), NONE);
        Due.is("the twentieth", x.write(1, 5), 20);
        Due.is("the last is wrong", x.judge(), 19);
        Due.is("one more", x.write(1, 0), FULL);
        Due.is("and one more", x.write(0, 3), FULL);
        Due.is("twenty", x.told(12), 20);
        Due.is("the last is wrong still", x.judge(), 19);
        Due.is("torn", x.tear(), 20);
        Due.is("room again", x.write(1, 0), 1);
        Due.is("and it is right", x.judge(), NONE);
    }

    /** "STANDINGS (-9 .. 99)" */
    private static void entriesFromMinus9To99() {
        DebtDowry x = Due.townOf("i0 0;c9 1 2 3;g1;");
        Due.is("write(0, -10)", x.write(0, -10), OUTSIDE);
        Due.is("write(0, 100)", x.write(0, 100), OUTSIDE);
        Due.is("write(0, -9)", x.write(0, -9), 1);
        Due.is("write(0, 99)", x.write(0, 99), 2);
        Due.is("the first", x.judge(), 0);
        DebtDowry low = Due.townOf("i0 0;c9 1 2 3;c9 1 2 3;c9 1 2 3;c9 1 2 3;g3,3,3,3;");
        low.write(0, -4);
        Due.is("below 0 is right", low.judge(), NONE);
        low.write(0, 4);
        Due.is("above 0 is wrong", low.judge(), 1);
    }

    /** "WRONG: the first that is otherwise now; NONE" */
    private static void wrongIsTheFirst() {
        DebtDowry x = Due.townOf("i0 0;c99 10 20 3;g10;m0;");
        Due.is("an empty book", x.judge(), NONE);
        x.write(0, 3);
        x.write(1, 0);
        x.write(1, 3);
        x.write(0, 2);
        Due.is("two are wrong: the first", x.judge(), 2);
        x.borrow(1, 0, 10);
        Due.is("otherwise now", x.judge(), 1);
        x.pay(0, 0, 1);
        Due.is("all of hers", x.judge(), 0);
    }

    /** "No CARDS, no BOOK: how much both had." */
    private static void tornIsEmpty() {
        DebtDowry x = Due.townOf("i0 0;c99 10 20 3;g10;m0;");
        Due.is("of nothing", x.tear(), 0);
        x.card(0, 0, 0, true);
        Due.is("of a card", x.tear(), 1);
        x.write(0, 3);
        Due.is("of an entry", x.tear(), 1);
        Due.is("of all there can be", Edge.full().tear(), 26);
        Due.is("without a town", Edge.bare().tear(), 0);
        DebtDowry full = Edge.full();
        full.tear();
        Due.is("cards then", full.told(11), 0);
        Due.is("entries then", full.told(12), 0);
        Due.is("deeds then", full.told(13), 30);
        Due.is("images then", full.goBack(1), 1);
    }

    private static long next(long seed) {
        return (seed * 1103515245L + 12345L) % 2147483648L;
    }

    /** "THE SEED (0 at first ..)" */
    private static void seedIsZeroAtFirst() {
        DebtDowry x = new DebtDowry();
        Due.is("at first", x.seed(5), 0);
        Due.is("then", x.seed(2147483647), 5);
        Due.is("the most", x.seed(2147483646), 2147483647);
        Due.is("below 0", x.seed(-1), OUTSIDE);
        Due.is("far below 0", x.seed(Integer.MIN_VALUE), OUTSIDE);
        Due.is("refused", x.seed(0), 2147483646);
        Due.is("none", x.seed(0), 0);
    }

    /** "it becomes it times 1103515245 and 12345, left over by 2 to the 31" */
    private static void seedIsLeftOver() {
        long[] seeds = {0, 1, 2, 12345, 65535, 65536, 1073741823, 1073741824, 2147483646, 2147483647};
        for (long seed : seeds) {
            DebtDowry x = Due.townOf("i0 0;c0 1 1 1;g0;");
            x.seed((int) seed);
            long due = seed;
            for (int quarters = 1; quarters <= 20; quarters++) {
                x.drift(1);
                due = next(next(next(due)));
                Due.is("the seed from " + seed + " behind " + quarters, x.seed((int) due), due);
            }
            DebtDowry y = Due.townOf("i0 0;c0 1 1 1;g0;");
            y.seed((int) seed);
            y.drift(20);
            Due.is("the seed from " + seed + " behind twenty at once", y.seed(0), due);
        }
    }

    /** "the DRAW of n is it / 65536, left over by n": "a DRAW of these, of CREDITORS, of 100: so much is BORROWED" */
    private static void drawsOfPersonsCreditorsAndCoins() {
        boolean noCoins = false;
        boolean mostCoins = false;
        String people = "g0,0,0;m0,0,0;g0,0,0;m0,0,0;g0,0,0;";
        for (int seed = 0; seed < 2147000000; seed += 4194301) {
            DebtDowry x = Due.townOf("i0 0;c999 1 999 1;c999 1 999 1;c999 1 999 1;" + people);
            x.seed(seed);
            long first = next(seed);
            long second = next(first);
            long third = next(second);
            int p = (int) (first / 65536 % 5);
            int c = (int) (second / 65536 % 3);
            int coins = (int) (third / 65536 % 100);
            noCoins |= coins == 0;
            mostCoins |= coins == 99;
            Due.is("owed in all by " + seed, x.drift(1), coins);
            Due.is("who borrowed by " + seed, x.owes(p, c), coins);
            Due.is("of whom by " + seed, x.creditor(c, 0), 999 - coins);
            Due.is("one deed by " + seed, x.told(13), 1);
        }
        Due.isTrue("no coins were drawn once", noCoins);
        Due.isTrue("99 coins were drawn once", mostCoins);
    }

    /** "if there are PERSONS" */
    private static void drawsOfNobody() {
        DebtDowry x = Edge.noPersons();
        x.seed(5);
        Due.is("no persons", x.drift(20), 0);
        Due.is("nothing is drawn", x.seed(6), 5);
        Due.is("the quarters go by", x.told(6), 20);
        DebtDowry y = Edge.noCreditors();
        y.seed(5);
        Due.is("no creditors", y.drift(1), 0);
        Due.is("nothing is drawn of none", y.seed(6), 5);
        Due.is("it is a deed", y.undo(1), 0);
    }

    /** "so much is BORROWED, if it may be" */
    private static void drawnIfItMayBe() {
        // From 0 the coins of the first draw are 88.
        for (int purse = 86; purse <= 89; purse++) {
            DebtDowry x = Due.townOf("i0 0;c" + purse + " 1 99 1;g0;");
            Due.is("88 of " + purse, x.drift(1), purse >= 88 ? 88 : 0);
            Due.is("the purse of " + purse, x.creditor(0, 0), purse >= 88 ? purse - 88 : purse);
            Due.is("drawn all the same", x.seed(0), next(next(next(0))));
            Due.is("a deed all the same", x.told(13), 1);
        }
        DebtDowry wed = Due.townOf("i0 0;c99 1 99 1;m0;g0;");
        wed.wed(1, 0);
        Due.is("a man who is wed", wed.drift(1), 0);
        Due.is("drawn of him all the same", wed.seed(0), next(next(next(0))));
        DebtDowry wife = Due.townOf("i0 0;c99 1 99 1;g0;m0;");
        wife.wed(0, 1);
        Due.is("his wife may", wife.drift(1), 88);
        DebtDowry failed = Due.townOf("i0 0;c99 1 2 1;g0;m99;m99;");
        Due.is("he fails", failed.quarter(1), 1);
        Due.is("of one who failed", failed.drift(1), 0);
        Due.is("his purse stays", failed.creditor(0, 0), 99);
    }

    /** "ahead of each" */
    private static void drawnAheadOfEach() {
        DebtDowry x = Due.townOf("i10 0;c99 1 99 1;g0;");
        Due.is("88 and its interest", x.drift(1), 96);
        DebtDowry fails = Due.townOf("i0 0;c99 1 50 1;g0;");
        Due.is("88 is above what is left", fails.drift(1), 0);
        Due.is("so he fails by it", fails.told(9), 1);
    }

    /** "the latest deeds (borrow(), pay(), wed(), divorce(), each QUARTER, with what is DRAWN)" */
    private static void eachDeedIsUndone() {
        deedIsUndone("borrow()", 1, x -> x.borrow(1, 0, 5));
        deedIsUndone("pay()", 1, x -> x.pay(1, 0, 40));
        deedIsUndone("wed()", 1, x -> x.wed(0, 1));
        deedIsUndone("divorce()", 1, x -> x.divorce(2));
        deedIsUndone("quarter(1)", 1, x -> x.quarter(1));
        deedIsUndone("quarter(20)", 20, x -> x.quarter(20));
        DebtDowry x = Edge.busy();
        int quarters = x.told(6);
        int owed = x.told(10);
        int purse = x.creditor(0, 0);
        x.drift(3);
        Due.is("each quarter of drift(3)", x.told(13), 4 + 3);
        Due.is("undo(3)", x.undo(3), quarters);
        Due.is("what was drawn is undone", x.told(10), owed);
        Due.is("the purse, too", x.creditor(0, 0), purse);
    }

    private static void deedIsUndone(String name, int deeds, ToIntFunction<DebtDowry> deed) {
        DebtDowry x = Edge.busy();
        int before = x.told(13);
        int quarters = x.told(6);
        Due.isTrue(name + " is done", deed.applyAsInt(x) >= 0);
        Due.is(name + ": deeds", x.told(13), before + deeds);
        Due.is(name + ": undo", x.undo(deeds), quarters);
        Edge.isAs(name + " is undone", x, Edge.busy());
        DebtDowry y = Edge.busy();
        deed.applyAsInt(y);
        for (int i = 1; i <= deeds; i++) {
            Due.is(name + ": undo one by one", y.undo(1), quarters + (deeds > 1 ? deeds - i : 0));
        }
        Edge.isAs(name + " is undone one by one", y, Edge.busy());
    }

    private static DebtDowry borrowed(int deeds) {
        DebtDowry x = Due.townOf("i0 0;c999 1 999 1;g0;");
        for (int i = 1; i <= deeds; i++) {
            Due.is("deed " + i, x.borrow(0, 0, 1), i);
        }
        return x;
    }

    /** "30 at most are kept": with 30, and fewer */
    private static void thirtyDeedsAreKept() {
        for (int deeds : new int[] {1, 2, 28, 29, 30}) {
            DebtDowry x = borrowed(deeds);
            Due.is("kept of " + deeds, x.told(13), deeds);
            if (deeds < 30) {
                Due.is("one too many of " + deeds, x.undo(deeds + 1), NOT);
            }
            Due.is("31 of " + deeds, x.undo(31), OUTSIDE);
            Due.is("nothing of " + deeds, x.undo(0), OUTSIDE);
            Due.is("owed by " + deeds, x.owes(0, 0), deeds);
            Due.is("all of " + deeds, x.undo(deeds), 0);
            Due.is("owed ahead of " + deeds, x.owes(0, 0), 0);
            Due.is("none is left of " + deeds, x.told(13), 0);
            Due.is("one more of " + deeds, x.undo(1), NOT);
        }
    }

    /** "30 at most are kept": with more, the latest */
    private static void moreThanThirtyDeeds() {
        for (int deeds : new int[] {31, 32, 59, 60, 61, 90, 100}) {
            DebtDowry x = borrowed(deeds);
            Due.is("kept of " + deeds, x.told(13), 30);
            Due.is("the latest of " + deeds, x.undo(1), 0);
            Due.is("owed then by " + deeds, x.owes(0, 0), deeds - 1);
            Due.is("30 of the 29 that are left", x.undo(30), NOT);
            Due.is("29 of " + deeds, x.undo(29), 0);
            Due.is("the oldest stay of " + deeds, x.owes(0, 0), deeds - 30);
            Due.is("one more of " + deeds, x.undo(1), NOT);
            x.borrow(0, 0, 7);
            Due.is("a deed behind " + deeds, x.told(13), 1);
            x.undo(1);
            Due.is("undone behind " + deeds, x.owes(0, 0), deeds - 30);
        }
        DebtDowry x = borrowed(45);
        for (int i = 1; i <= 30; i++) {
            Due.is("undo(1), time " + i, x.undo(1), 0);
            Due.is("owed behind time " + i, x.owes(0, 0), 45 - i);
        }
        Due.is("time 31", x.undo(1), NOT);
        DebtDowry half = borrowed(40);
        half.undo(20);
        for (int i = 0; i < 25; i++) {
            half.borrow(0, 0, 1);
        }
        Due.is("ten old ones and 20 of 25 new ones", half.told(13), 30);
        Due.is("undo(30)", half.undo(30), 0);
        Due.is("owed by 15 deeds", half.owes(0, 0), 15);
        DebtDowry many = Due.townOf("i0 0;c999 1 999 1;g0;");
        many.quarter(20);
        many.quarter(20);
        Due.is("kept of 40 quarters", many.told(13), 30);
        Due.is("the latest 30", many.undo(30), 10);
    }

    /** "since the text" */
    private static void undoneSinceTheText() {
        DebtDowry x = borrowed(5);
        Due.tell(x, "i0 0;c999 1 999 1;g3;");
        Due.is("nothing", x.told(13), 0);
        Due.is("undo(1)", x.undo(1), NOT);
        x.borrow(0, 0, 1);
        Due.is("one", x.undo(1), 0);
        Due.is("back to the text", x.owes(0, 0), 3);
        DebtDowry y = borrowed(5);
        Due.is("a fault", Due.tell(y, "i0 0;g"), -13);
        Due.is("with a fault all is as it was", y.undo(5), 0);
        Due.is("owed", y.owes(0, 0), 0);
    }

    /** "or IMAGE" */
    private static void undoneSinceTheImage() {
        DebtDowry x = borrowed(5);
        x.keep(0);
        Due.is("nothing behind keep()", x.told(13), 0);
        Due.is("undo(1) behind keep()", x.undo(1), NOT);
        x.borrow(0, 0, 1);
        x.goBack(0);
        Due.is("nothing behind goBack()", x.told(13), 0);
        Due.is("undo(1) behind goBack()", x.undo(1), NOT);
        Due.is("as kept", x.owes(0, 0), 5);
        x.borrow(0, 0, 2);
        Due.is("one", x.undo(1), 0);
        Due.is("back to the image", x.owes(0, 0), 5);
    }

    /** "all of section 2 is as ahead of them; THE SEED stays" */
    private static void undoneButTheSeed() {
        DebtDowry x = Due.townOf("i0 0;c999 1 999 1;g0;");
        x.drift(2);
        Due.is("undo(2)", x.undo(2), 0);
        long due = 0;
        for (int i = 0; i < 6; i++) {
            due = next(due);
        }
        Due.is("the seed is as drawn", x.seed(9), due);
        x.quarter(1);
        x.seed(10);
        x.undo(1);
        Due.is("the seed is as set", x.seed(0), 10);
        DebtDowry y = Edge.busy();
        y.undo(4);
        Due.is("cards stay", y.told(11), 2);
        Due.is("the book stays", y.told(12), 2);
        Due.is("letters stay", y.told(5), 2);
        Due.is("images stay", y.goBack(0), 1);
    }

    /** "What is refused changes nothing": it is no deed, either */
    private static void refusedIsNoDeed() {
        DebtDowry x = borrowed(2);
        x.borrow(0, 0, 1000);
        x.borrow(0, 0, 998);
        x.pay(0, 0, 3);
        x.wed(0, 0);
        x.divorce(0);
        x.quarter(0);
        x.drift(21);
        x.undo(3);
        Due.is("two deeds", x.told(13), 2);
        Due.is("undo(2)", x.undo(2), 0);
    }

    /** "IMAGES 0, 1" */
    private static void imagesZeroAndOne() {
        DebtDowry x = borrowed(1);
        Due.is("keep(-1)", x.keep(-1), UNKNOWN);
        Due.is("keep(2)", x.keep(2), UNKNOWN);
        Due.is("goBack(-1)", x.goBack(-1), UNKNOWN);
        Due.is("goBack(2)", x.goBack(2), UNKNOWN);
        Due.is("goBack(0), not kept", x.goBack(0), NOT);
        Due.is("goBack(1), not kept", x.goBack(1), NOT);
        Due.is("keep(0)", x.keep(0), 1);
        Due.is("goBack(1), not kept yet", x.goBack(1), NOT);
        x.borrow(0, 0, 1);
        Due.is("keep(1)", x.keep(1), 1);
        x.borrow(0, 0, 1);
        Due.is("goBack(0)", x.goBack(0), 1);
        Due.is("image 0", x.owes(0, 0), 1);
        Due.is("goBack(1)", x.goBack(1), 1);
        Due.is("image 1", x.owes(0, 0), 2);
        Due.is("goBack(0) again", x.goBack(0), 1);
        Due.is("image 0 again", x.owes(0, 0), 1);
        x.borrow(0, 0, 7);
        x.keep(0);
        x.goBack(1);
        x.goBack(0);
        Due.is("image 0 kept anew", x.owes(0, 0), 8);
        Due.tell(x, "x");
        Due.is("with a fault images stay", x.goBack(1), 1);
        Due.tell(x, "i0 0;c999 1 999 1;g0;");
        Due.is("image 0 is gone", x.goBack(0), NOT);
        Due.is("image 1 is gone", x.goBack(1), NOT);
    }

    /** "keep all of section 2" */
    private static void imagesKeepAllOfSectionTwo() {
        for (int i = 0; i < 2; i++) {
            DebtDowry x = Edge.busy();
            DebtDowry y = Edge.busy();
            Due.is("keep(" + i + ")", x.keep(i), 1);
            y.keep(i);
            x.divorce(2);
            x.wed(0, 3);
            x.borrow(0, 0, 9);
            x.quarter(7);
            x.seed(4);
            Due.is("goBack(" + i + ")", x.goBack(i), 1);
            Edge.isAs("image " + i, x, y);
        }
    }

    /** "IMAGES .. keep .. THE SEED" */
    private static void imagesKeepTheSeed() {
        DebtDowry x = borrowed(1);
        x.seed(2147483647);
        x.keep(0);
        x.seed(0);
        x.keep(1);
        x.seed(8);
        x.goBack(0);
        Due.is("of image 0", x.seed(8), 2147483647);
        x.goBack(1);
        Due.is("of image 1", x.seed(8), 0);
        DebtDowry bare = new DebtDowry();
        bare.seed(5);
        bare.keep(1);
        bare.seed(6);
        Due.is("without a town", bare.goBack(1), 1);
        Due.is("the seed without a town", bare.seed(0), 5);
    }

    /** What is no part of section 2 is in no image. */
    private static void imagesLeaveCardsAndBook() {
        DebtDowry x = borrowed(1);
        x.card(0, 0, 0, true);
        x.keep(0);
        x.card(0, 0, 1, true);
        x.write(0, 1);
        x.feed('i');
        x.goBack(0);
        Due.is("cards", x.told(11), 2);
        Due.is("the book", x.told(12), 1);
        Due.is("letters", x.told(5), 1);
    }

    /** "FULL: QUARTERS are above 9000" */
    private static void quartersAbove9000() {
        for (int last = 0; last < 2; last++) {
            boolean byDraws = last == 1;
            DebtDowry x = Due.townOf("i0 0;");
            for (int i = 0; i < 450; i++) {
                x.quarter(20);
            }
            Due.is("quarters", x.told(6), 9000);
            Due.is("from 9000 on", byDraws ? x.drift(1) : x.quarter(1), 0);
            Due.is("one above", x.told(6), 9001);
            Due.is("quarter(1)", x.quarter(1), FULL);
            Due.is("quarter(20)", x.quarter(20), FULL);
            Due.is("drift(1)", x.drift(1), FULL);
            Due.is("drift(20)", x.drift(20), FULL);
            Due.is("quarter(0)", x.quarter(0), OUTSIDE);
            Due.is("quarter(21)", x.quarter(21), OUTSIDE);
            Due.is("drift(0)", x.drift(0), OUTSIDE);
            Due.is("drift(21)", x.drift(21), OUTSIDE);
            Due.is("nothing has changed", x.told(6), 9001);
            Due.is("deeds", x.told(13), 30);
            Due.is("tried all the same", x.run(20), 0);
            Due.is("undone", x.undo(1), 9000);
            Due.is("twenty at once", byDraws ? x.drift(20) : x.quarter(20), 0);
            Due.is("twenty above", x.told(6), 9020);
            Due.is("no more", byDraws ? x.drift(1) : x.quarter(1), FULL);
            Due.is("undone to 9001", x.undo(19), 9001);
            Due.is("still above", x.quarter(1), FULL);
            Due.is("undone to 9000", x.undo(1), 9000);
            Due.is("not above", x.drift(1), 0);
        }
    }
}
