import java.util.function.ToIntFunction;

/** Section 1 of the document, a test for each sentence that names a bound: the text, its clauses and its faults. */
public final class TextEdgeTest {
    private static final int NONE = DebtDowry.NONE;
    private static final int FULL = DebtDowry.FULL;

    private static final String CREDITOR = "c9 1 5 3;";
    private static final String ONE = "i0 0;" + CREDITOR;

    public static void main(String[] args) {
        atMost240Letters();
        interestIsZeroTo30();
        insultIsZeroTo100();
        purseIsZeroTo999();
        lowIsOneTo999();
        highIsOneTo999();
        highIsNoLessThanLow();
        greatIsOneToNine();
        owedIsZeroTo999();
        interestComesFirst();
        interestComesOnce();
        atMostFourCreditors();
        atMostEightPersons();
        personsBehindAllCreditors();
        personsNeedCreditors();
        asManySumsAsCreditors();
        oneToThreeFigures();
        wordsAreOneLetter();
        eachLetterAsFirst();
        eachLetterAsClause();
        eachLetterBehindNumber();
        eachLetterForNumber();
        eachLetterBehindSum();
        blanksAnywhere();
        noBlankWithinNumbers();
        aBlankBetweenNumbers();
        onlyBlanksAreBlank();
        theEndIsAtTheLength();
        firstLetterOfAll();
        leastOfOneLetter();
        emptyText();
        numbersAsTheyCome();
        faultOfTheLatest();
        textIsEmptyThen();
        Due.end();
    }

    private static void good(String text, int persons) {
        DebtDowry x = new DebtDowry();
        Due.is("town of '" + text + "'", Due.tell(x, text), persons);
        Due.is("fault of '" + text + "'", x.fault(), NONE);
        Due.is("a town by '" + text + "'", x.told(0), 1);
    }

    private static void bad(String text, int kind, int at) {
        DebtDowry x = new DebtDowry();
        Due.is("town of '" + text + "'", Due.tell(x, text), -10 - kind);
        Due.is("fault of '" + text + "'", x.fault(), at);
        Due.is("no town by '" + text + "'", x.told(0), 0);
    }

    /** "told in a text (240 letters at most)" */
    private static void atMost240Letters() {
        String text = "i0 0;" + " ".repeat(226) + CREDITOR;
        DebtDowry x = new DebtDowry();
        for (int i = 0; i < 240; i++) {
            Due.is("letter " + i, x.feed(text.charAt(i)), i + 1);
        }
        Due.is("one more", x.feed(';'), FULL);
        Due.is("and one more", x.feed(' '), FULL);
        Due.is("letters", x.told(5), 240);
        Due.is("a town by 240 letters", x.town(), 0);
        Due.is("its last clause", x.told(3), 1);
        Due.is("the last number", x.creditor(0, 3), 3);
        bad(" ".repeat(236) + "i0 0", 1, 240);
        DebtDowry y = new DebtDowry();
        Due.feedAll(y, " " + text);
        Due.is("the letter that is too many is not there", y.town(), -11);
        Due.is("it ends at 240", y.fault(), 240);
    }

    /** The least and the most are read, and the numbers beside them are faults, at their first figure. */
    private static void bounds(String ahead, int least, int most, String behind, ToIntFunction<DebtDowry> read) {
        for (int value : new int[] {least, least + 1, most - 1, most}) {
            DebtDowry x = new DebtDowry();
            String text = ahead + value + behind;
            Due.isTrue("town of '" + text + "'", Due.tell(x, text) >= 0);
            Due.is("the number in '" + text + "'", read.applyAsInt(x), value);
        }
        if (least > 0) {
            bad(ahead + (least - 1) + behind, 2, ahead.length());
            bad(ahead + "000" + behind, 2, ahead.length());
        }
        for (int value : new int[] {most + 1, most + 2, 1000, 1001, 9999}) {
            bad(ahead + value + behind, 2, ahead.length());
        }
        // Sums that a machine's number would take for small ones.
        bad(ahead + "4294967297" + behind, 2, ahead.length());
        bad(ahead + "18446744073709551617" + behind, 2, ahead.length());
        bad(ahead + " " + (most + 1) + behind, 2, ahead.length() + 1);
        bad(ahead + (most + 1), 2, ahead.length());
    }

    /** "INTEREST of I of a hundred a quarter, 0 .. 30" */
    private static void interestIsZeroTo30() {
        bounds("i", 0, 30, " 0;", x -> x.told(1));
    }

    /** "more than M of a hundred .. 0 .. 100" */
    private static void insultIsZeroTo100() {
        bounds("i0 ", 0, 100, ";", x -> x.told(2));
    }

    /** "PURSE P, 0 .. 999" */
    private static void purseIsZeroTo999() {
        bounds("i0 0;c", 0, 999, " 1 5 3;", x -> x.creditor(0, 0));
        bounds(ONE + CREDITOR + CREDITOR + "c", 0, 999, " 1 5 3;", x -> x.creditor(3, 0));
    }

    /** "A to B, 1 .. 999": A */
    private static void lowIsOneTo999() {
        bounds("i0 0;c9 ", 1, 999, " 999 3;", x -> x.creditor(0, 1));
        bounds(ONE + CREDITOR + CREDITOR + "c9 ", 1, 999, " 999 3;", x -> x.creditor(3, 1));
    }

    /** "A to B, 1 .. 999": B */
    private static void highIsOneTo999() {
        bounds("i0 0;c9 1 ", 1, 999, " 3;", x -> x.creditor(0, 2));
        bounds(ONE + CREDITOR + CREDITOR + "c9 1 ", 1, 999, " 3;", x -> x.creditor(3, 2));
    }

    /** "B no less than A", "4 B below A (at the B)" */
    private static void highIsNoLessThanLow() {
        for (int low : new int[] {1, 2, 9, 10, 99, 100, 500, 998, 999}) {
            String ahead = "i0 0;c9 " + low + " ";
            good(ahead + low + " 3;", 0);
            if (low < 999) {
                good(ahead + (low + 1) + " 3;", 0);
            }
            if (low > 1) {
                bad(ahead + (low - 1) + " 3;", 4, ahead.length());
                bad(ahead + "  " + (low - 1) + " 3;", 4, ahead.length() + 2);
                bad(ahead + "1", 4, ahead.length());
            }
        }
        String fourth = ONE + CREDITOR + CREDITOR + "c9 7 ";
        bad(fourth + "6 3;", 4, fourth.length());
        bad(fourth + "006 3;", 4, fourth.length());
        good(fourth + "007 3;", 0);
    }

    /** "G how great he is, 1 .. 9" */
    private static void greatIsOneToNine() {
        bounds("i0 0;c9 1 5 ", 1, 9, ";", x -> x.creditor(0, 3));
        bounds(ONE + CREDITOR + CREDITOR + "c9 1 5 ", 1, 9, ";", x -> x.creditor(3, 3));
    }

    /** "owes O, 0 .. 999" */
    private static void owedIsZeroTo999() {
        bounds(ONE + "g", 0, 999, ";", x -> x.owes(0, 0));
        bounds(ONE + CREDITOR + "m1,", 0, 999, ";", x -> x.owes(0, 1));
        String eighth = ONE + CREDITOR + CREDITOR + CREDITOR + "g1,2,3,4;".repeat(7) + "m1,2,3,";
        bounds(eighth, 0, 999, ";", x -> x.owes(7, 3));
    }

    /** "first": "another word first than 'i'" is fault 1 */
    private static void interestComesFirst() {
        bad("c9 1 5 3;i0 0;", 1, 0);
        bad("g1;", 1, 0);
        bad("m1;", 1, 0);
        bad("  c", 1, 2);
        bad(";i0 0;", 1, 0);
        bad("0i0 0;", 1, 0);
        good("i0 0;", 0);
    }

    /** "once": "3 'i' again .. (at it)" */
    private static void interestComesOnce() {
        bad("i0 0;i", 3, 5);
        bad("i0 0;i0 0;", 3, 5);
        bad("i0 0; i31", 3, 6);
        bad(ONE + "i", 3, 14);
        bad(ONE + CREDITOR + CREDITOR + CREDITOR + "i", 3, 41);
        bad(ONE + "g0;i", 3, 17);
        bad(ONE + "g0;m0;g0;m0;g0;m0;g0;m0;i", 3, 38);
    }

    /** "4 CREDITORS at most", "a fifth 'c' .. (at it)" */
    private static void atMostFourCreditors() {
        for (int n = 0; n <= 4; n++) {
            DebtDowry x = new DebtDowry();
            Due.is("town of " + n + " creditors", Due.tell(x, "i0 0;" + CREDITOR.repeat(n)), 0);
            Due.is("creditors of " + n, x.told(3), n);
        }
        String four = "i0 0;" + CREDITOR.repeat(4);
        bad(four + "c", 3, 41);
        bad(four + CREDITOR, 3, 41);
        bad(four + "  cx", 3, 43);
        bad(four + CREDITOR + "g0,0,0,0,0;", 3, 41);
        good(four + "g1,2,3,4;", 1);
    }

    /** "8 PERSONS at most", "a ninth PERSON .. (at it)" */
    private static void atMostEightPersons() {
        for (String kind : new String[] {"g1;", "m1;"}) {
            for (int n = 0; n <= 8; n++) {
                DebtDowry x = new DebtDowry();
                Due.is("town of " + n + " persons", Due.tell(x, ONE + kind.repeat(n)), n);
                Due.is("persons of " + n, x.told(4), n);
                Due.is("girls of " + n, x.told(7), kind.equals("g1;") ? (1 << n) - 1 : 0);
            }
            bad(ONE + kind.repeat(8) + "g", 3, 38);
            bad(ONE + kind.repeat(8) + "m1;", 3, 38);
            bad(ONE + kind.repeat(8) + " g1000;", 3, 39);
        }
    }

    /** "behind all CREDITORS", "a 'c' behind a PERSON .. (at it)" */
    private static void personsBehindAllCreditors() {
        bad(ONE + "g1;c", 3, 17);
        bad(ONE + "m1;" + CREDITOR, 3, 17);
        bad(ONE + "m1;g1; c", 3, 21);
        bad("i0 0;" + CREDITOR.repeat(4) + "g1,2,3,4;c", 3, 50);
        bad(ONE + "g1;m1;g1;m1;g1;m1;g1;m1;c", 3, 38);
    }

    /** "a PERSON without CREDITORS ahead (at it)" */
    private static void personsNeedCreditors() {
        bad("i0 0;g", 3, 5);
        bad("i0 0;m", 3, 5);
        bad("i0 0;  g1;", 3, 7);
        bad("i0 0;m;", 3, 5);
        bad("i0 0;g1;" + CREDITOR, 3, 5);
    }

    /** "to each CREDITOR in turn, just as many as CREDITORS"; too many at its ',', too few at what is instead */
    private static void asManySumsAsCreditors() {
        for (int n = 1; n <= 4; n++) {
            String ahead = "i0 0;" + CREDITOR.repeat(n) + "m";
            for (int sums = 1; sums <= 6; sums++) {
                String text = ahead + "7,".repeat(sums - 1) + "7;";
                if (sums == n) {
                    good(text, 1);
                } else if (sums > n) {
                    bad(text, 1, ahead.length() + 2 * n - 1);
                } else {
                    bad(text, 1, ahead.length() + 2 * sums - 1);
                }
            }
            bad(ahead + ";", 1, ahead.length());
            bad(ahead + ",", 1, ahead.length());
            bad(ahead + "7,".repeat(n) + ";", 1, ahead.length() + 2 * n - 1);
            bad(ahead + "7,".repeat(n - 1) + ";", 1, ahead.length() + 2 * n - 2);
            bad(ahead + "7,".repeat(n - 1) + "7 , 7;", 1, ahead.length() + 2 * n);
        }
        bad(ONE + CREDITOR + "g7 ;", 1, 26);
        bad(ONE + CREDITOR + "g7 7;", 1, 26);
        bad(ONE + CREDITOR + "g7g7,7;", 1, 25);
        bad(ONE + CREDITOR + "g7", 1, 25);
        // The second person's too.
        bad(ONE + CREDITOR + "g7,7;m7;", 1, 30);
        bad(ONE + CREDITOR + "g7,7;m7,7,7;", 1, 32);
    }

    /** "NUMBERS have one to three figures", "2 a NUMBER of four figures or more .. (at its first)" */
    private static void oneToThreeFigures() {
        String[] ahead = {"i", "i0 ", "i0 0;c", "i0 0;c9 ", "i0 0;c9 1 ", "i0 0;c9 1 1 ", ONE + "g", ONE + CREDITOR + "g1,"};
        String[] behind = {" 0;", ";", " 1 1 1;", " 1 1;", " 1;", ";", ";", ";"};
        for (int i = 0; i < ahead.length; i++) {
            int persons = ahead[i].indexOf('g') < 0 ? 0 : 1;
            good(ahead[i] + "1" + behind[i], persons);
            good(ahead[i] + "01" + behind[i], persons);
            good(ahead[i] + "001" + behind[i], persons);
            bad(ahead[i] + "0001" + behind[i], 2, ahead[i].length());
            bad(ahead[i] + "00001" + behind[i], 2, ahead[i].length());
            bad(ahead[i] + "0".repeat(100) + "1" + behind[i], 2, ahead[i].length());
            bad(ahead[i] + "0001", 2, ahead[i].length());
            bad(ahead[i] + ";", 1, ahead[i].length());
        }
        DebtDowry x = Due.townOf("i07 008;c090 012 340 005;g056;");
        int[] due = {7, 8, 90, 12, 340, 5, 56};
        for (int i = 0; i < 2; i++) {
            Due.is("told(" + (i + 1) + ") with zeros ahead", x.told(i + 1), due[i]);
        }
        for (int what = 0; what < 4; what++) {
            Due.is("creditor(0, " + what + ") with zeros ahead", x.creditor(0, what), due[2 + what]);
        }
        Due.is("owes(0, 0) with zeros ahead", x.owes(0, 0), due[6]);
    }

    /** "a word is one letter" */
    private static void wordsAreOneLetter() {
        bad("ii0 0;", 1, 1);
        bad("i0 0;cc9 1 5 3;", 1, 6);
        bad(ONE + "gg1;", 1, 15);
        bad(ONE + "mm1;", 1, 15);
        bad(ONE + "gm1;", 1, 15);
        bad("i0 0;;", 1, 5);
        bad(ONE + CREDITOR + "g1,,1;", 1, 26);
        bad("I0 0;", 1, 0);
        bad("i0 0;C9 1 5 3;", 1, 5);
        bad(ONE + "G1;", 1, 14);
        bad(ONE + "M1;", 1, 14);
    }

    /** "1 it cannot stand there (a letter that is no word, another word first than 'i' ..)": all letters there are */
    private static void eachLetterAsFirst() {
        for (char letter = 0; letter < 256; letter++) {
            if (letter != 'i' && letter != ' ') {
                bad(letter + "", 1, 0);
                bad(letter + "i0 0;", 1, 0);
            }
        }
        bad("i", 1, 1);
    }

    private static void eachLetterAsClause() {
        for (char letter = 0; letter < 256; letter++) {
            String text = "i0 0;" + letter;
            if (letter == ' ') {
                good(text, 0);
            } else if (letter == 'c') {
                bad(text, 1, 6);
            } else if (letter == 'i' || letter == 'g' || letter == 'm') {
                bad(text, 3, 5);
            } else {
                bad(text, 1, 5);
            }
        }
    }

    private static void eachLetterBehindNumber() {
        for (char letter = 0; letter < 256; letter++) {
            boolean figureOrBlank = letter == ' ' || letter >= '0' && letter <= '9';
            bad("i0" + letter, 1, figureOrBlank ? 3 : 2);
            if (letter != ';') {
                bad("i0 0" + letter, 1, figureOrBlank ? 5 : 4);
                bad("i0 0 " + letter, 1, letter == ' ' ? 6 : 5);
            }
        }
        good("i0 0;", 0);
        good("i0 0 ;", 0);
    }

    private static void eachLetterForNumber() {
        for (char letter = 0; letter < 256; letter++) {
            boolean figureOrBlank = letter == ' ' || letter >= '0' && letter <= '9';
            bad("i" + letter, 1, figureOrBlank ? 2 : 1);
            bad("i0 " + letter, 1, figureOrBlank ? 4 : 3);
            bad(ONE + "g" + letter, 1, figureOrBlank ? 16 : 15);
            bad(ONE + CREDITOR + "g1," + letter, 1, figureOrBlank ? 27 : 26);
        }
    }

    private static void eachLetterBehindSum() {
        for (char letter = 0; letter < 256; letter++) {
            boolean figureOrBlank = letter == ' ' || letter >= '0' && letter <= '9';
            bad(ONE + CREDITOR + "g1" + letter, 1, figureOrBlank || letter == ',' ? 26 : 25);
            if (letter != ';') {
                bad(ONE + "g1" + letter, 1, figureOrBlank ? 17 : 16);
            }
        }
        good(ONE + "g1;", 1);
    }

    /** "blanks (32) may stand anywhere but within NUMBERS" */
    private static void blanksAnywhere() {
        String text = "i12 34;c567 89 123 4;c5 6 7 8;g910,11;m0,999;";
        for (int at = 0; at <= text.length(); at++) {
            boolean within = at > 0 && at < text.length() && isFigure(text.charAt(at - 1)) && isFigure(text.charAt(at));
            for (int blanks = 1; blanks <= 3 && !within; blanks++) {
                String wide = text.substring(0, at) + " ".repeat(blanks) + text.substring(at);
                DebtDowry x = new DebtDowry();
                Due.is("town of '" + wide + "'", Due.tell(x, wide), 2);
                Due.is("fault of '" + wide + "'", x.fault(), NONE);
                Edge.isAs("the town of '" + wide + "'", x, Due.townOf(text));
            }
        }
        good(" i 1 2 ; c 3 4 5 6 ; c 7 8 9 1 ; g 2 , 3 ; m 4 , 5 ; ", 2);
    }

    private static boolean isFigure(char letter) {
        return letter >= '0' && letter <= '9';
    }

    /** A blank within makes two NUMBERS of one, and then there is one too many, or it is another. */
    private static void noBlankWithinNumbers() {
        bad("i1 2 34;", 1, 5);
        bad("i12 3 4;", 1, 6);
        bad("i0 0;c9 1 5 3 0;", 1, 14);
        bad("i0 0;c1 9 1 5;", 4, 10);
        bad("i0 0;c1 1 1 1 1;", 1, 14);
        bad(ONE + "g1 0;", 1, 17);
        bad(ONE + CREDITOR + "g1,2 3;", 1, 28);
    }

    /** "two NUMBERS side by side need one" */
    private static void aBlankBetweenNumbers() {
        bad("i12;", 1, 3);
        bad("i1234;", 2, 1);
        bad("i0 0;c9 1 53;", 1, 12);
        bad("i0 0;c9153;", 2, 6);
        bad("i0 0;c915 3;", 1, 11);
        good("i0 0;c915 3 4 5;", 0);
    }

    /** Only letter 32 is a blank. */
    private static void onlyBlanksAreBlank() {
        for (char letter : new char[] {0, 9, 10, 11, 12, 13, 31, 33, 95, 127, 160, 255}) {
            bad(letter + "i0 0;", 1, 0);
            bad("i" + letter + "0 0;", 1, 1);
            bad("i0" + letter + "0;", 1, 2);
            bad("i0 0" + letter + ";", 1, 4);
            bad("i0 0;" + letter, 1, 5);
            bad(ONE + "g1" + letter + ";", 1, 16);
            bad(letter + "", 1, 0);
        }
    }

    /** "the end at the text's length": each beginning of a text ends a clause, or has its fault at its end. */
    private static void theEndIsAtTheLength() {
        String[] texts = {"i1 2;c3 4 5 6;c7 8 9 1;g2,3;m4,5;", " i 1  2 ; c 3 4 5 6 ;  c 7 8  9 1 ; g 2 , 3 ; m  4 , 5 ;  "};
        for (String text : texts) {
            for (int length = 1; length <= text.length(); length++) {
                String start = text.substring(0, length);
                boolean ends = start.isBlank() || start.trim().endsWith(";");
                if (!ends) {
                    bad(start, 1, length);
                } else if (!start.isBlank()) {
                    DebtDowry x = new DebtDowry();
                    Due.isTrue("town of '" + start + "'", Due.tell(x, start) >= 0);
                    Due.is("fault of '" + start + "'", x.fault(), NONE);
                }
            }
        }
    }

    /** "at the first letter that has one": whichever number a later one has. */
    private static void firstLetterOfAll() {
        bad("i31 101;", 2, 1);
        bad("i31 x", 2, 1);
        bad("i0 0;c9 5 4 0;", 4, 10);
        bad("i0 0;c9 5 4 x", 4, 10);
        bad("i0 0;c1000 5 4 0;", 2, 6);
        bad("i0 0;i31 0;", 3, 5);
        bad("i0 0;ix", 3, 5);
        bad("i0 0;gx", 3, 5);
        bad(ONE + "g1000,5;", 2, 15);
        bad(ONE + "g1,1000;", 1, 16);
        bad(ONE + "g1000x", 2, 15);
        bad(ONE + "g1000;c", 2, 15);
        bad(ONE + "gx;c", 1, 15);
    }

    /** "of these the least": one letter has several faults. */
    private static void leastOfOneLetter() {
        // 1 it cannot stand there, and it is a number of four figures, or out of its bounds.
        bad("1000", 1, 0);
        bad("i0 0 1000;", 1, 5);
        bad("i0 0;1000", 1, 5);
        bad(ONE + "g1 1000;", 1, 17);
        // 1 it cannot stand there, and is 'i' again, a fifth 'c', a 'c' behind a person, a ninth person.
        bad("ii", 1, 1);
        bad("i0 i", 1, 3);
        bad("i0 0i", 1, 4);
        bad("i0 0;" + CREDITOR.repeat(3) + "c9 1 5 c", 1, 39);
        bad(ONE + "gc", 1, 15);
        bad(ONE + "g1c", 1, 16);
        bad(ONE + "g1;".repeat(7) + "g1g", 1, 37);
        // 1 another word first than 'i', and a person without creditors.
        bad("g1;", 1, 0);
        bad("m", 1, 0);
        // 2 out of its bounds, and below A.
        bad("i0 0;c9 5 0 3;", 2, 10);
        bad("i0 0;c9 5 000 3;", 2, 10);
        // 2 of four figures, and below A.
        bad("i0 0;c9 5 0004 3;", 2, 10);
        bad("i0 0;c9 5 0001", 2, 10);
    }

    /** "An empty text: no TOWN." */
    private static void emptyText() {
        for (int blanks : new int[] {0, 1, 2, 239, 240}) {
            DebtDowry x = new DebtDowry();
            Due.is("town of " + blanks + " blanks", Due.tell(x, " ".repeat(blanks)), 0);
            Due.is("fault of " + blanks + " blanks", x.fault(), NONE);
            Due.is("no town by " + blanks + " blanks", x.told(0), 0);
            Due.is("no quarters by " + blanks + " blanks", x.quarter(1), DebtDowry.NOT);
            DebtDowry again = Edge.busy();
            again.town();
            again.seed(0);
            Due.is("town of " + blanks + " blanks behind another", Due.tell(again, " ".repeat(blanks)), 0);
            for (int what = 0; what <= 13; what++) {
                Due.is("told(" + what + ") by " + blanks + " blanks behind another", again.told(what), 0);
            }
            Edge.isAs("what is left behind " + blanks + " blanks", again, new DebtDowry());
            DebtDowry told = Due.townOf("i5 6;c7 8 9 1;g2;");
            Due.is("town of " + blanks + " blanks at once behind a good one", Due.tell(told, " ".repeat(blanks)), 0);
            for (int what = 0; what <= 13; what++) {
                Due.is("told(" + what + ") by " + blanks + " blanks at once behind a good one", told.told(what), 0);
            }
        }
    }

    /** "What has a number has it from 0 on, as it comes." */
    private static void numbersAsTheyCome() {
        DebtDowry x = Due.townOf("i1 2;c11 12 13 1;c21 22 23 2;c31 32 33 3;c41 42 43 4;m1,2,3,4;g5,6,7,8;m9,10,11,12;");
        for (int c = 0; c < 4; c++) {
            for (int what = 0; what < 3; what++) {
                Due.is("creditor(" + c + ", " + what + ")", x.creditor(c, what), 10 * c + 11 + what);
            }
            Due.is("creditor(" + c + ", 3)", x.creditor(c, 3), c + 1);
            for (int p = 0; p < 3; p++) {
                Due.is("owes(" + p + ", " + c + ")", x.owes(p, c), 4 * p + c + 1);
            }
        }
        Due.is("girls", x.told(7), 2);
    }

    /** Promise 4: "The letter of the FAULT of the latest town(); NONE." */
    private static void faultOfTheLatest() {
        DebtDowry x = new DebtDowry();
        Due.is("at first", x.fault(), NONE);
        Due.tell(x, "i0 0;x");
        Due.is("of a text with one", x.fault(), 5);
        Due.feedAll(x, "ix");
        Due.is("letters alone change nothing", x.fault(), 5);
        x.town();
        Due.is("of the latest", x.fault(), 1);
        Due.tell(x, "i0 0;");
        Due.is("of a text without", x.fault(), NONE);
        Due.tell(x, "x");
        Due.is("of one at the first letter", x.fault(), 0);
        x.town();
        Due.is("of an empty one", x.fault(), NONE);
    }

    /** Promise 3: "THE TEXT (it is empty then, with a FAULT, too)" */
    private static void textIsEmptyThen() {
        for (String text : new String[] {"i0 0;", "i0 0", "x", " ", ""}) {
            DebtDowry x = new DebtDowry();
            Due.tell(x, text);
            Due.is("letters behind '" + text + "'", x.told(5), 0);
            Due.is("the next letter behind '" + text + "'", x.feed('i'), 1);
            Due.is("its place", x.town(), -11);
            Due.is("the end of it", x.fault(), 1);
        }
        DebtDowry x = new DebtDowry();
        Due.feedAll(x, "i".repeat(240));
        Due.is("a full one", x.feed('i'), FULL);
        x.town();
        Due.is("room again", x.feed('i'), 1);
    }
}
