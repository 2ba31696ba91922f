/** Promises 1 to 9: a new object, the text and its faults, and what is told of the town. */
public final class TownTest {
    private static final int NONE = DebtDowry.NONE;
    private static final int UNKNOWN = DebtDowry.UNKNOWN;
    private static final int OUTSIDE = DebtDowry.OUTSIDE;
    private static final int NOT = DebtDowry.NOT;
    private static final int FULL = DebtDowry.FULL;

    public static void main(String[] args) {
        newObject();
        feedAnswersLength();
        goodTexts();
        faultsOfKindOne();
        faultsOfKindTwo();
        faultsOfKindThree();
        faultsOfKindFour();
        firstFaultThenLeast();
        textsWithoutWords();
        townStartsAnew();
        faultLeavesAll();
        toldAnswers();
        creditorAnswers();
        personAnswers();
        owesAndTemper();
        Due.end();
    }

    private static void newObject() {
        DebtDowry x = new DebtDowry();
        for (int what = 0; what <= 13; what++) {
            Due.is("new: told(" + what + ")", x.told(what), 0);
        }
        Due.is("new: fault()", x.fault(), NONE);
        Due.is("new: creditor(0, 0)", x.creditor(0, 0), UNKNOWN);
        Due.is("new: person(0, 0)", x.person(0, 0), UNKNOWN);
        Due.is("new: owes(0, 0)", x.owes(0, 0), UNKNOWN);
        Due.is("new: temper(0, 0)", x.temper(0, 0), UNKNOWN);
        Due.is("new: borrow(0, 0, 1)", x.borrow(0, 0, 1), UNKNOWN);
        Due.is("new: pay(0, 0, 1)", x.pay(0, 0, 1), UNKNOWN);
        Due.is("new: quarter(1)", x.quarter(1), NOT);
        Due.is("new: quarter(0)", x.quarter(0), OUTSIDE);
        Due.is("new: wed(0, 1)", x.wed(0, 1), UNKNOWN);
        Due.is("new: divorce(0)", x.divorce(0), UNKNOWN);
        Due.is("new: drift(1)", x.drift(1), NOT);
        Due.is("new: drift(21)", x.drift(21), OUTSIDE);
        Due.is("new: undo(1)", x.undo(1), NOT);
        Due.is("new: joined(0, 1)", x.joined(0, 1), UNKNOWN);
        Due.is("new: least(0, 1, 0)", x.least(0, 1, 0), UNKNOWN);
        Due.is("new: plan(0, 0, 1, 0)", x.plan(0, 0, 1, 0), UNKNOWN);
        Due.is("new: matches(NONE)", x.matches(NONE), 0);
        Due.is("new: matches(0)", x.matches(0), UNKNOWN);
        Due.is("new: failing()", x.failing(), 0);
        Due.is("new: run(1)", x.run(1), 0);
        Due.is("new: credit(0, 0)", x.credit(0, 0), UNKNOWN);
        Due.is("new: card(0, 0, 0, true)", x.card(0, 0, 0, true), UNKNOWN);
        Due.is("new: had(0, 0, 0)", x.had(0, 0, 0), UNKNOWN);
        Due.is("new: lookAt(0, 0)", x.lookAt(0, 0), UNKNOWN);
        Due.is("new: write(0, 0)", x.write(0, 0), UNKNOWN);
        Due.is("new: judge()", x.judge(), NONE);
        Due.is("new: tear()", x.tear(), 0);
        Due.is("new: goBack(0)", x.goBack(0), NOT);
        Due.is("new: goBack(1)", x.goBack(1), NOT);
        Due.is("new: seed(7)", x.seed(7), 0);
    }

    private static void feedAnswersLength() {
        DebtDowry x = new DebtDowry();
        Due.is("feed(-1)", x.feed(-1), OUTSIDE);
        Due.is("feed(256)", x.feed(256), OUTSIDE);
        Due.is("feed(least int)", x.feed(Integer.MIN_VALUE), OUTSIDE);
        Due.is("feed(0)", x.feed(0), 1);
        Due.is("feed(255)", x.feed(255), 2);
        for (int i = 3; i <= 240; i++) {
            Due.is("feed " + i, x.feed(i), i);
        }
        Due.is("feed 241", x.feed(32), FULL);
        Due.is("feed out of bounds beyond 240", x.feed(256), OUTSIDE);
        Due.is("letters", x.told(5), 240);
        Due.is("town() of it", x.town(), -11);
        Due.is("letters then", x.told(5), 0);
        Due.is("feed then", x.feed(105), 1);
    }

    private static void good(String text, int persons) {
        DebtDowry x = new DebtDowry();
        Due.is("town of '" + text + "'", Due.tell(x, text), persons);
        Due.is("fault of '" + text + "'", x.fault(), NONE);
        Due.is("a town by '" + text + "'", x.told(0), 1);
        Due.is("letters behind '" + text + "'", x.told(5), 0);
    }

    private static void bad(String text, int kind, int at) {
        DebtDowry x = new DebtDowry();
        Due.is("town of '" + text + "'", Due.tell(x, text), -10 - kind);
        Due.is("fault of '" + text + "'", x.fault(), at);
        Due.is("no town by '" + text + "'", x.told(0), 0);
        Due.is("letters behind '" + text + "'", x.told(5), 0);
    }

    private static void goodTexts() {
        good("i0 0;", 0);
        good("i30 100;", 0);
        good("  i  007   1 ;  ", 0);
        good("i0 0;c0 1 1 1;", 0);
        good("i0 0;c999 999 999 9;c000 001 002 003;c1 2 3 4;c5 6 7 8;", 0);
        good("i0 0;c0 1 1 1;g0;", 1);
        good("i0 0 ; c 0 1 1 1 ; m 999 ; g 0 ;", 2);
        good("i0 0;c0 1 1 1;c0 1 1 1;g0,1;m 2 , 3;", 2);
        good("i0 0;c0 1 1 1;g0;m0;g0;m0;g0;m0;g0;m0;", 8);
        good("i0 0;" + " ".repeat(235), 0);
        good(" ".repeat(235) + "i0 0;", 0);
    }

    private static void faultsOfKindOne() {
        bad("x", 1, 0);
        bad(" \t ", 1, 1);
        bad("   ;", 1, 3);
        bad(" ".repeat(239) + "i", 1, 240);
        bad(" ".repeat(239) + "g", 1, 239);
        bad("c0 1 1 1;", 1, 0);
        bad("g0;", 1, 0);
        bad(" m0;", 1, 1);
        bad("0 0;", 1, 0);
        bad("i", 1, 1);
        bad("i;", 1, 1);
        bad("i 0", 1, 3);
        bad("i0 0", 1, 4);
        bad("i0 0  ", 1, 6);
        bad("i0;", 1, 2);
        bad("i0,0;", 1, 2);
        bad("i-1 0;", 1, 1);
        bad("i0 0 0;", 1, 5);
        bad("i0 0;;", 1, 5);
        bad("i0 0;5", 1, 5);
        bad("i0 0;C0 1 1 1;", 1, 5);
        bad("i0 0;c0 1 1;", 1, 11);
        bad("i0 0;c0 1 1 1 1;", 1, 14);
        bad("i0 0;c0 1 1 1", 1, 13);
        bad("i0 0;c0 1 1 1;g", 1, 15);
        bad("i0 0;c0 1 1 1;g;", 1, 15);
        bad("i0 0;c0 1 1 1;g0", 1, 16);
        bad("i0 0;c0 1 1 1;g0,0;", 1, 16);
        bad("i0 0;c0 1 1 1;g0 0;", 1, 17);
        bad("i0 0;c0 1 1 1;c0 1 1 1;g0;", 1, 25);
        bad("i0 0;c0 1 1 1;c0 1 1 1;g0 0;", 1, 26);
        bad("i0 0;c0 1 1 1;c0 1 1 1;g0", 1, 25);
        bad("i0 0;c0 1 1 1;c0 1 1 1;g0,;", 1, 26);
        bad("i0 0;c0 1 1 1;c0 1 1 1;g0,0,0;", 1, 27);
        bad("i0 0;c0 1 1 1;c0 1 1 1;g0,0 , 0;", 1, 28);
        bad("i0\t0;", 1, 2);
        bad("i0 0;" + (char) 0, 1, 5);
        bad("i0 0;" + (char) 233, 1, 5);
        bad("i0 0;c0 1 1 1;g0;i", 3, 17);
    }

    private static void faultsOfKindTwo() {
        bad("i31 0;", 2, 1);
        bad("i0 101;", 2, 3);
        bad("i1000 0;", 2, 1);
        bad("i0000 0;", 2, 1);
        bad("i0 0000;", 2, 3);
        bad("i99999999999999999999 0;", 2, 1);
        bad("i4294967296 0;", 2, 1);
        bad("i0 0;c1000 1 1 1;", 2, 6);
        bad("i0 0;c0 0 1 1;", 2, 8);
        bad("i0 0;c0 1000 1 1;", 2, 8);
        bad("i0 0;c0 1 0 1;", 2, 10);
        bad("i0 0;c0 1 1000 1;", 2, 10);
        bad("i0 0;c0 1 1 0;", 2, 12);
        bad("i0 0;c0 1 1 10;", 2, 12);
        bad("i0 0;c0 1 1 1;g1000;", 2, 15);
        bad("i0 0;c0 1 1 1;m0;g0000;", 2, 18);
        bad("i0 0;c0 1 1 1;c0 1 1 1;g0,1000;", 2, 26);
    }

    private static void faultsOfKindThree() {
        bad("i0 0;i0 0;", 3, 5);
        bad("i0 0; i", 3, 6);
        bad("i0 0;c0 1 1 1;i0 0;", 3, 14);
        bad("i0 0;g0;", 3, 5);
        bad("i0 0;m", 3, 5);
        bad("i0 0;c0 1 1 1;c0 1 1 1;c0 1 1 1;c0 1 1 1;c0 1 1 1;", 3, 41);
        bad("i0 0;c0 1 1 1;g0;c0 1 1 1;", 3, 17);
        bad("i0 0;c0 1 1 1;g0;m0;g0;m0;g0;m0;g0;m0;g0;", 3, 38);
        bad("i0 0;c0 1 1 1;g0;m0;g0;m0;g0;m0;g0;m0; m", 3, 39);
        bad("i0 0;c0 1 1 1;g0;m0;g0;m0;g0;m0;g0;m0;x", 1, 38);
    }

    private static void faultsOfKindFour() {
        bad("i0 0;c0 5 4 1;", 4, 10);
        bad("i0 0;c0 999  998 1;", 4, 13);
        bad("i0 0;c0 1 1 1;c0 2 1 1;", 4, 19);
        bad("i0 0;c0 5 4", 4, 10);
    }

    private static void firstFaultThenLeast() {
        bad("i31 101;", 2, 1);
        bad("i31", 2, 1);
        bad("i31x", 2, 1);
        bad("i0 0;c0 5 0 1;", 2, 10);
        bad("i0 0;c0 5 0004 1;", 2, 10);
        bad("i0 0;c0 5 4 10;", 4, 10);
        bad("i0 0;c0 1 1 1;g0 1000;", 1, 17);
        bad("i0 0;c0 1 1 1;g0,1000;", 1, 16);
        bad("i0 0;c0 i", 1, 8);
        bad("i0 i", 1, 3);
    }

    private static void textsWithoutWords() {
        noTownBy("");
        noTownBy(" ");
        noTownBy("   ");
        noTownBy(" ".repeat(239));
        noTownBy(" ".repeat(240));
    }

    private static void noTownBy(String text) {
        String name = text.length() + " blanks: ";
        DebtDowry fresh = new DebtDowry();
        Due.is(name + "town() of a new object", Due.tell(fresh, text), 0);
        Due.is(name + "fault() of a new object", fresh.fault(), NONE);
        Due.is(name + "no town of a new object", fresh.told(0), 0);

        DebtDowry x = Due.townOf("i5 6;c7 1 2 3;g1;m1;");
        x.quarter(2);
        x.card(0, 0, 0, true);
        x.write(0, 0);
        x.keep(0);
        x.wed(0, 1);
        x.seed(99);
        x.feed('x');
        x.town();
        Due.is(name + "a fault first", x.fault(), 0);
        Due.is(name + "town()", Due.tell(x, text), 0);
        Due.is(name + "fault()", x.fault(), NONE);
        for (int what = 0; what <= 13; what++) {
            Due.is(name + "told(" + what + ")", x.told(what), 0);
        }
        Due.is(name + "goBack(0)", x.goBack(0), NOT);
        Due.is(name + "person(0, 0)", x.person(0, 0), UNKNOWN);
        Due.is(name + "creditor(0, 0)", x.creditor(0, 0), UNKNOWN);
        Due.is(name + "quarter(1)", x.quarter(1), NOT);
        Due.is(name + "undo(1)", x.undo(1), NOT);
        Due.is(name + "the seed stays", x.seed(1), 99);
        Due.is(name + "a town then", Due.tell(x, "i5 6;c7 1 2 3;g1;m1;"), 2);
    }

    private static void townStartsAnew() {
        DebtDowry x = Due.townOf("i10 0;c100 10 20 1;c0 1 1 1;g30,9;m15,0;g0,0;");
        x.seed(1234);
        x.pay(0, 0, 1);
        Due.is("an insult", x.person(0, 4), 1);
        x.wed(0, 1);
        x.keep(0);
        x.keep(1);
        Due.is("one fails", x.quarter(3), 1);
        x.card(0, 0, 1, true);
        x.write(0, 1);
        x.write(0, 2);
        Due.is("told(6) ahead", x.told(6), 3);
        Due.is("told(8) ahead", x.told(8), 3);
        Due.is("told(9) ahead", x.told(9), 2);
        Due.is("told(11) ahead", x.told(11), 1);
        Due.is("told(12) ahead", x.told(12), 2);
        Due.is("told(13) ahead", x.told(13), 3);
        Due.is("another town", Due.tell(x, "i20 30;c50 10 20 1;m5;g6;"), 2);
        int[] due = {1, 20, 30, 1, 2, 0, 0, 2, 0, 0, 11, 0, 0, 0};
        for (int what = 0; what < due.length; what++) {
            Due.is("another town: told(" + what + ")", x.told(what), due[what]);
        }
        Due.is("its purse", x.creditor(0, 0), 50);
        Due.is("no insults", x.person(0, 4), 0);
        Due.is("not wed", x.person(0, 1), NONE);
        Due.is("no image 0", x.goBack(0), NOT);
        Due.is("no image 1", x.goBack(1), NOT);
        Due.is("nothing to undo", x.undo(1), NOT);
        Due.is("judge()", x.judge(), NONE);
        Due.is("the seed stays", x.seed(0), 1234);
    }

    private static void faultLeavesAll() {
        DebtDowry x = Due.townOf("i10 50;c100 10 20 3;g12;m5;");
        x.borrow(1, 0, 10);
        x.quarter(1);
        x.keep(0);
        x.wed(0, 1);
        x.card(0, 0, 0, true);
        x.write(0, 3);
        Due.is("a text with a fault", Due.tell(x, "i3 4;c1 2 3 4;c5 6 7 8;m1,2;g3,4;m5,1000;"), -12);
        Due.is("fault()", x.fault(), 36);
        int[] due = {1, 10, 50, 1, 2, 0, 1, 1, 3, 0, 29, 1, 1, 1};
        for (int what = 0; what < due.length; what++) {
            Due.is("as it was: told(" + what + ")", x.told(what), due[what]);
        }
        Due.is("purse as it was", x.creditor(0, 0), 90);
        Due.is("A as it was", x.creditor(0, 1), 10);
        Due.is("B as it was", x.creditor(0, 2), 20);
        Due.is("G as it was", x.creditor(0, 3), 3);
        Due.is("owed as it was", x.owes(0, 0), 29);
        Due.is("undo as it was", x.undo(1), 1);
        Due.is("image as it was", x.goBack(0), 1);
    }

    private static void toldAnswers() {
        DebtDowry x = Due.townOf("i7 33;c1 2 3 4;c5 6 7 8;m10,20;g30,40;g1,2;");
        x.feed('i');
        x.feed('9');
        int[] due = {1, 7, 33, 2, 3, 2, 0, 6, 0, 0, 103, 0, 0, 0};
        for (int what = 0; what < due.length; what++) {
            Due.is("told(" + what + ")", x.told(what), due[what]);
        }
        Due.is("told(-1)", x.told(-1), OUTSIDE);
        Due.is("told(14)", x.told(14), OUTSIDE);
        x.wed(2, 0);
        Due.is("wed: told(8)", x.told(8), 5);
        Due.is("wed: told(7)", x.told(7), 6);
        Due.is("wed: told(13)", x.told(13), 1);
        x.quarter(1);
        Due.is("quarter: told(6)", x.told(6), 1);
        Due.is("quarter: told(9)", x.told(9), 3);
        Due.is("quarter: told(10)", x.told(10), 0);
        Due.is("quarter: told(13)", x.told(13), 2);
    }

    private static void creditorAnswers() {
        DebtDowry x = Due.townOf("i0 100;c17 20 40 4;c8 1 999 9;g19,0;m20,1;g40,999;m41,3;");
        int[][] due = {{17, 20, 40, 4, 6, 8}, {8, 1, 999, 9, 14, 0}};
        for (int c = 0; c < 2; c++) {
            for (int what = 0; what < 6; what++) {
                Due.is("creditor(" + c + ", " + what + ")", x.creditor(c, what), due[c][what]);
            }
        }
        Due.is("creditor(-1, 9)", x.creditor(-1, 9), UNKNOWN);
        Due.is("creditor(2, 0)", x.creditor(2, 0), UNKNOWN);
        Due.is("creditor(0, -1)", x.creditor(0, -1), OUTSIDE);
        Due.is("creditor(0, 6)", x.creditor(0, 6), OUTSIDE);
        x.borrow(0, 0, 1);
        Due.is("purse behind borrowing", x.creditor(0, 0), 16);
        Due.is("civil behind borrowing", x.creditor(0, 4), 7);
        x.quarter(1);
        Due.is("he failed", x.told(9), 1);
        Due.is("failed: civil", x.creditor(0, 4), 0);
        Due.is("failed: sour", x.creditor(0, 5), 0);
        Due.is("failed: purse stays", x.creditor(0, 0), 16);
        Due.is("failed: A stays", x.creditor(0, 1), 20);
    }

    private static void personAnswers() {
        DebtDowry x = Due.townOf("i0 10;c50 10 20 4;c50 10 20 5;c50 10 20 7;g10,20,21;m21,22,23;g9,9,9;");
        Due.is("a girl", x.person(0, 0), 1);
        Due.is("a man", x.person(1, 0), 0);
        Due.is("not wed", x.person(0, 1), NONE);
        Due.is("owed together", x.person(0, 2), 51);
        Due.is("standing", x.person(0, 3), 8);
        Due.is("standing below 0", x.person(1, 3), -3);
        Due.is("standing of none", x.person(2, 3), 0);
        Due.is("no insults", x.person(0, 4), 0);
        Due.is("person(3, 9)", x.person(3, 9), UNKNOWN);
        Due.is("person(-1, 0)", x.person(-1, 0), UNKNOWN);
        Due.is("person(0, 5)", x.person(0, 5), OUTSIDE);
        Due.is("person(0, -1)", x.person(0, -1), OUTSIDE);
        x.pay(0, 1, 3);
        Due.is("insults", x.person(0, 4), 2);
        Due.is("standing with an insult", x.person(0, 3), 3);
        x.pay(0, 2, 3);
        Due.is("insults of two", x.person(0, 4), 6);
        x.wed(0, 1);
        Due.is("her man", x.person(0, 1), 1);
        Due.is("his wife", x.person(1, 1), 0);
    }

    private static void owesAndTemper() {
        DebtDowry x = Due.townOf("i0 10;c0 10 20 4;c50 1 1 5;g9,0;g10,1;g20,2;g21,1;m300,0;");
        int[] sums = {9, 10, 20, 21, 300};
        int[] tempers = {0, 1, 1, 2, 2};
        for (int p = 0; p < 5; p++) {
            Due.is("owes(" + p + ", 0)", x.owes(p, 0), sums[p]);
            Due.is("temper(" + p + ", 0)", x.temper(p, 0), tempers[p]);
        }
        Due.is("owes(2, 1)", x.owes(2, 1), 2);
        Due.is("owes(5, 0)", x.owes(5, 0), UNKNOWN);
        Due.is("owes(0, 2)", x.owes(0, 2), UNKNOWN);
        Due.is("owes(-1, 0)", x.owes(-1, 0), UNKNOWN);
        Due.is("owes(0, -1)", x.owes(0, -1), UNKNOWN);
        Due.is("temper(5, 0)", x.temper(5, 0), UNKNOWN);
        Due.is("temper(0, 2)", x.temper(0, 2), UNKNOWN);
        Due.is("temper(-1, 0)", x.temper(-1, 0), UNKNOWN);
        Due.is("temper(0, -1)", x.temper(0, -1), UNKNOWN);
        x.pay(4, 0, 31);
        Due.is("cold by insult, whatever is owed", x.temper(4, 0), 0);
        x.quarter(1);
        Due.is("failed", x.temper(0, 0), 3);
        Due.is("nothing is owed him", x.owes(1, 0), 0);
        Due.is("the other did not", x.temper(1, 1), 1);
    }
}
