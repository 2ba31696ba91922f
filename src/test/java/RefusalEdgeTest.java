import java.util.function.IntFunction;
import java.util.function.Supplier;
import java.util.function.ToIntFunction;

/**
 * Each call's bounds and refusals: the last number inside and the first outside, which of two refusals comes first,
 * and that nothing changes by them; the empty and the full state.
 */
public final class RefusalEdgeTest {
    private static final int NONE = DebtDowry.NONE;
    private static final int UNKNOWN = DebtDowry.UNKNOWN;
    private static final int OUTSIDE = DebtDowry.OUTSIDE;
    private static final int NOT = DebtDowry.NOT;
    private static final int FULL = DebtDowry.FULL;

    private static final String MANY = "i0 50;c9 1 9 1;c9 2 9 2;c9 3 9 3;c9 4 9 4;g1,0,0,0;m0,2,0,0;g0,0,3,0;m0,0,0,4;"
        + "g5,0,0,0;m0,5,0,0;g0,0,5,0;m0,0,0,9;";

    public static void main(String[] args) {
        valuesAreFarBelow();
        personsThereAre();
        creditorsThereAre();
        girlsAndMen();
        imagesThereAre();
        feedIsRefused();
        townIsRefused();
        toldIsRefused();
        whatOfOneIsRefused();
        borrowIsRefused();
        payIsRefused();
        quarterIsRefused();
        wedIsRefused();
        divorceIsRefused();
        driftIsRefused();
        undoIsRefused();
        joinedIsRefused();
        leastIsRefused();
        planIsRefused();
        matchesIsRefused();
        runIsRefused();
        rumoursIsRefused();
        cardIsRefused();
        hadIsRefused();
        writeIsRefused();
        seedIsRefused();
        imagesAreRefused();
        allIsEmpty();
        allIsFull();
        setsOfAll();
        townEmptiesAll();
        newObjects();
        Due.end();
    }

    private static DebtDowry many() {
        return Due.townOf(MANY);
    }

    private static void busy(String call, ToIntFunction<DebtDowry> asked, int due) {
        Edge.refused("busy: " + call, Edge::busy, asked, due);
    }

    private static void full(String call, ToIntFunction<DebtDowry> asked, int due) {
        Edge.refused("full: " + call, Edge::full, asked, due);
    }

    /** "They are far below all that is counted: -1000000001 and on." */
    private static void valuesAreFarBelow() {
        Due.is("NONE", NONE, -1);
        Due.is("UNKNOWN", UNKNOWN, -1000000001);
        Due.is("OUTSIDE", OUTSIDE, -1000000002);
        Due.is("NOT", NOT, -1000000003);
        Due.is("FULL", FULL, -1000000004);
    }

    /** The call of a person answers UNKNOWN below 0 and from how many there are, and not in between. */
    private static void knows(String call, int many, Supplier<DebtDowry> made, IntFunction<ToIntFunction<DebtDowry>> asked) {
        for (int i = 0; i < many; i++) {
            Due.isTrue(call + " of " + i, asked.apply(i).applyAsInt(made.get()) != UNKNOWN);
        }
        for (int i : new int[] {-1, many, many + 1, 4, 8, 32}) {
            if (i < 0 || i >= many) {
                Edge.refused(call + " of " + i, made, asked.apply(i), UNKNOWN);
            }
        }
        for (int i : Edge.FAR) {
            Edge.refused(call + " of " + i, made, asked.apply(i), UNKNOWN);
        }
    }

    /** "UNKNOWN (a PERSON .. that there is not ..)" */
    private static void personsThereAre() {
        for (int round = 0; round < 2; round++) {
            int many = round == 0 ? 4 : 8;
            Supplier<DebtDowry> made = round == 0 ? Edge::busy : RefusalEdgeTest::many;
            knows("person", many, made, p -> x -> x.person(p, 0));
            knows("owes", many, made, p -> x -> x.owes(p, 0));
            knows("temper", many, made, p -> x -> x.temper(p, 0));
            knows("borrow", many, made, p -> x -> x.borrow(p, 0, 1));
            knows("pay", many, made, p -> x -> x.pay(p, 0, 1));
            knows("least", many, made, p -> x -> x.least(p, 1, 0));
            knows("plan", many, made, p -> x -> x.plan(p, 0, 1, 0));
            knows("credit", many, made, p -> x -> x.credit(p, 0));
            knows("card", many, made, p -> x -> x.card(p, 0, 0, true));
            knows("had", many, made, p -> x -> x.had(p, 0, 0));
            knows("lookAt", many, made, p -> x -> x.lookAt(p, 0));
            knows("write", many, made, p -> x -> x.write(p, 0));
        }
    }

    /** "UNKNOWN (a .. CREDITOR .. that there is not ..)" */
    private static void creditorsThereAre() {
        for (int round = 0; round < 2; round++) {
            int many = round == 0 ? 2 : 4;
            Supplier<DebtDowry> made = round == 0 ? Edge::busy : RefusalEdgeTest::many;
            knows("creditor", many, made, c -> x -> x.creditor(c, 0));
            knows("owes to", many, made, c -> x -> x.owes(0, c));
            knows("temper by", many, made, c -> x -> x.temper(0, c));
            knows("borrow by", many, made, c -> x -> x.borrow(0, c, 1));
            knows("pay to", many, made, c -> x -> x.pay(0, c, 1));
            knows("plan with", many, made, c -> x -> x.plan(0, c, 1, 0));
            knows("credit by", many, made, c -> x -> x.credit(0, c));
            knows("card by", many, made, c -> x -> x.card(0, c, 0, true));
            knows("had by", many, made, c -> x -> x.had(0, c, 0));
            knows("lookAt by", many, made, c -> x -> x.lookAt(0, c));
        }
    }

    /** "one who is not a girl, or a man, where such is asked" */
    private static void girlsAndMen() {
        for (int p = -1; p <= 8; p++) {
            int q = p;
            boolean girl = p >= 0 && p < 8 && p % 2 == 0;
            boolean man = p >= 0 && p < 8 && p % 2 == 1;
            asked("divorce(" + p + ")", x -> x.divorce(q), girl ? NOT : UNKNOWN);
            asked("wed(" + p + ", 1)", x -> x.wed(q, 1), girl ? 0 : UNKNOWN);
            asked("wed(0, " + p + ")", x -> x.wed(0, q), man ? 0 : UNKNOWN);
            asked("joined(" + p + ", 1)", x -> x.joined(q, 1), girl ? 0 : UNKNOWN);
            asked("joined(0, " + p + ")", x -> x.joined(0, q), man ? 0 : UNKNOWN);
            asked("matches(" + p + ")", x -> x.matches(q), girl || p == NONE ? 0 : UNKNOWN);
        }
        for (int far : Edge.FAR) {
            asked("divorce(" + far + ")", x -> x.divorce(far), UNKNOWN);
            asked("wed(" + far + ", 1)", x -> x.wed(far, 1), UNKNOWN);
            asked("wed(0, " + far + ")", x -> x.wed(0, far), UNKNOWN);
            asked("joined(" + far + ", 1)", x -> x.joined(far, 1), UNKNOWN);
            asked("joined(0, " + far + ")", x -> x.joined(0, far), UNKNOWN);
            asked("matches(" + far + ")", x -> x.matches(far), UNKNOWN);
        }
        asked("wed(1, 0)", x -> x.wed(1, 0), UNKNOWN);
        asked("joined(1, 0)", x -> x.joined(1, 0), UNKNOWN);
        asked("wed(NONE, NONE)", x -> x.wed(NONE, NONE), UNKNOWN);
    }

    /** Due is a refusal, or 0 for no refusal. */
    private static void asked(String call, ToIntFunction<DebtDowry> ask, int due) {
        if (due != 0) {
            Edge.refused(call, RefusalEdgeTest::many, ask, due);
        } else {
            Due.isTrue(call + " is answered", ask.applyAsInt(many()) >= NONE);
        }
    }

    /** "UNKNOWN (a .. IMAGE that there is not ..)" */
    private static void imagesThereAre() {
        knows("keep", 2, Edge::busy, i -> x -> x.keep(i));
        knows("goBack", 2, Edge::busy, i -> x -> x.goBack(i));
        knows("keep without a town", 2, Edge::bare, i -> x -> x.keep(i));
        knows("goBack without a town", 2, Edge::bare, i -> x -> x.goBack(i));
    }

    /** Promise 2: "A letter (0 .. 255) .. OUTSIDE, FULL (240)" */
    private static void feedIsRefused() {
        Supplier<DebtDowry> long240 = () -> {
            DebtDowry x = new DebtDowry();
            Due.feedAll(x, "i0 0;" + " ".repeat(235));
            return x;
        };
        for (int letter : new int[] {-1, 256, 257, 512, -256, Integer.MIN_VALUE, Integer.MAX_VALUE}) {
            busy("feed(" + letter + ")", x -> x.feed(letter), OUTSIDE);
            Edge.refused("feed(" + letter + ") ahead of FULL", long240, x -> x.feed(letter), OUTSIDE);
        }
        for (int letter : new int[] {0, 32, 59, 255}) {
            Due.is("feed(" + letter + ")", new DebtDowry().feed(letter), 1);
            Due.is("feed(" + letter + ") behind others", Edge.busy().feed(letter), 3);
            Edge.refused("feed(" + letter + ") behind 240", long240, x -> x.feed(letter), FULL);
        }
    }

    /** Promise 3: "-10 less the number of its FAULT (all is as it was)" */
    private static void townIsRefused() {
        String[] texts = {"x", "i31 0;", "i0 0;i", "i0 0;c9 5 4 1;",
            "i0 0;c9 1 2 3;c9 1 2 3;c9 1 2 3;g1,1,1;m2,2,2;g3,3,3;x"};
        int[] due = {-11, -12, -13, -14, -11};
        for (int i = 0; i < texts.length; i++) {
            String text = texts[i];
            // The same letters of a fault are behind both, since the text is empty then and fault() tells of it.
            DebtDowry x = Edge.busy();
            Due.is("town of the letters so far", x.town(), -11);
            Due.is("town of '" + text + "'", Due.tell(x, text), due[i]);
            DebtDowry y = Edge.busy();
            y.town();
            y.feed('x');
            y.town();
            Due.is("letters", x.told(5), 0);
            Due.tell(x, "x");
            Edge.isAs("all is as it was behind '" + text + "'", x, y);
        }
    }

    /** Promise 5: "OUTSIDE" */
    private static void toldIsRefused() {
        for (int what : new int[] {-1, 14, 15, 32, Integer.MIN_VALUE, Integer.MAX_VALUE}) {
            busy("told(" + what + ")", x -> x.told(what), OUTSIDE);
            Due.is("bare: told(" + what + ")", new DebtDowry().told(what), OUTSIDE);
        }
        DebtDowry x = Edge.busy();
        // Owed: 22 less 12 and 1 more by girl 0, 66 by man 1, 11 by girl 2.
        int[] due = {1, 10, 50, 2, 4, 2, 1, 5, 12, 2, 88, 2, 2, 4};
        for (int what = 0; what <= 13; what++) {
            Due.is("busy: told(" + what + ")", x.told(what), due[what]);
        }
    }

    /** Promises 6 and 7: "UNKNOWN, OUTSIDE" */
    private static void whatOfOneIsRefused() {
        for (int what : new int[] {-1, 6, 7, Integer.MIN_VALUE, Integer.MAX_VALUE}) {
            busy("creditor(0, " + what + ")", x -> x.creditor(0, what), OUTSIDE);
            busy("creditor(2, " + what + "): UNKNOWN first", x -> x.creditor(2, what), UNKNOWN);
        }
        for (int what : new int[] {-1, 5, 6, Integer.MIN_VALUE, Integer.MAX_VALUE}) {
            busy("person(0, " + what + ")", x -> x.person(0, what), OUTSIDE);
            busy("person(4, " + what + "): UNKNOWN first", x -> x.person(4, what), UNKNOWN);
        }
        int[][] creditors = {{111, 10, 50, 4, 4, 2}, {30, 20, 40, 7, 0, 0}};
        int[][] persons = {{1, NONE, 11, 0, 1}, {0, NONE, 66, -1, 0}, {1, 3, 11, 4, 0}, {0, 2, 0, 0, 0}};
        for (int what = 0; what <= 5; what++) {
            for (int c = 0; c < creditors.length; c++) {
                Due.is("creditor(" + c + ", " + what + ")", Edge.busy().creditor(c, what), creditors[c][what]);
            }
        }
        for (int what = 0; what <= 4; what++) {
            for (int p = 0; p < persons.length; p++) {
                Due.is("person(" + p + ", " + what + ")", Edge.busy().person(p, what), persons[p][what]);
            }
        }
    }

    /** Promise 10: "(1 .. 999) .. UNKNOWN, OUTSIDE, NOT: a man who is WED; the CREDITOR FAILED, or his PURSE has less" */
    private static void borrowIsRefused() {
        Supplier<DebtDowry> wealthy = () -> Due.townOf("i0 0;c999 1 999 1;g0;");
        Due.is("one coin", wealthy.get().borrow(0, 0, 1), 1);
        Due.is("999 coins", wealthy.get().borrow(0, 0, 999), 999);
        for (int coins : new int[] {0, -1, 1000, 1001, Integer.MIN_VALUE, Integer.MAX_VALUE}) {
            Edge.refused("borrow " + coins, wealthy, x -> x.borrow(0, 0, coins), OUTSIDE);
            busy("borrow " + coins + " of a full purse", x -> x.borrow(1, 0, coins), OUTSIDE);
            busy("borrow " + coins + " by a wed man", x -> x.borrow(3, 0, coins), OUTSIDE);
            busy("borrow " + coins + " of one who failed", x -> x.borrow(0, 1, coins), OUTSIDE);
            busy("borrow " + coins + " by nobody", x -> x.borrow(4, 0, coins), UNKNOWN);
            busy("borrow " + coins + " of nobody", x -> x.borrow(3, 2, coins), UNKNOWN);
        }
        Edge.refused("999 of the rich when 1000 is asked", Edge::rich, x -> x.borrow(1, 0, 1000), OUTSIDE);
        busy("a wed man", x -> x.borrow(3, 0, 1), NOT);
        busy("of one who failed", x -> x.borrow(0, 1, 1), NOT);
        busy("nobody of one who failed", x -> x.borrow(4, 1, 1), UNKNOWN);
        int purse = Edge.busy().creditor(0, 0);
        busy("more than the purse", x -> x.borrow(1, 0, purse + 1), NOT);
        busy("far more than the purse", x -> x.borrow(1, 0, 999), NOT);
        Due.is("all of the purse", Edge.busy().borrow(1, 0, purse), 66 + purse);
        Due.isTrue("a wed girl", Edge.busy().borrow(2, 0, 1) > 0);
    }

    /** Promise 11: "(1 .. 9999) .. UNKNOWN, OUTSIDE, NOT: not so much is owed" */
    private static void payIsRefused() {
        Due.is("one coin", Edge.rich().pay(0, 0, 1), 9998);
        Due.is("9999 coins", Edge.rich().pay(0, 0, 9999), 0);
        for (int coins : new int[] {0, -1, 10000, 10001, Integer.MIN_VALUE, Integer.MAX_VALUE}) {
            Edge.refused("pay " + coins + " of 9999", Edge::rich, x -> x.pay(0, 0, coins), OUTSIDE);
            busy("pay " + coins, x -> x.pay(1, 0, coins), OUTSIDE);
            busy("pay " + coins + " by a wed man", x -> x.pay(3, 0, coins), OUTSIDE);
            busy("pay " + coins + " by nobody", x -> x.pay(4, 0, coins), UNKNOWN);
            busy("pay " + coins + " to nobody", x -> x.pay(0, 2, coins), UNKNOWN);
        }
        busy("one more than is owed", x -> x.pay(1, 0, 67), NOT);
        busy("9999, not so much is owed", x -> x.pay(1, 0, 9999), NOT);
        busy("to one who failed", x -> x.pay(1, 1, 1), NOT);
        busy("by a wed man", x -> x.pay(3, 0, 1), NOT);
        busy("nobody, and not so much", x -> x.pay(4, 0, 9999), UNKNOWN);
        Due.is("all that is owed", Edge.busy().pay(1, 0, 66), 0);
    }

    /** Promise 12: "(1 .. 20) .. OUTSIDE, NOT: no TOWN" */
    private static void quarterIsRefused() {
        for (int n : new int[] {0, -1, 21, 22, Integer.MIN_VALUE, Integer.MAX_VALUE}) {
            busy("quarter(" + n + ")", x -> x.quarter(n), OUTSIDE);
            full("quarter(" + n + ")", x -> x.quarter(n), OUTSIDE);
            Edge.refused("quarter(" + n + ") without a town", Edge::bare, x -> x.quarter(n), OUTSIDE);
        }
        for (int n : new int[] {1, 2, 19, 20}) {
            Edge.refused("quarter(" + n + ") without a town", Edge::bare, x -> x.quarter(n), NOT);
            DebtDowry x = Edge.busy();
            Due.isTrue("quarter(" + n + ")", x.quarter(n) >= 0);
            Due.is("quarters behind " + n, x.told(6), n + 1);
            Due.is("deeds behind " + n, x.told(13), n + 4);
        }
    }

    /** Promise 13: "UNKNOWN, NOT: one is WED" */
    private static void wedIsRefused() {
        busy("she is wed", x -> x.wed(2, 1), NOT);
        busy("he is wed", x -> x.wed(0, 3), NOT);
        busy("both are wed", x -> x.wed(2, 3), NOT);
        busy("she is wed, he is not there", x -> x.wed(2, 4), UNKNOWN);
        busy("she is wed, he is a girl", x -> x.wed(2, 0), UNKNOWN);
        busy("he is wed, she is not there", x -> x.wed(-1, 3), UNKNOWN);
        busy("he is wed, she is a man", x -> x.wed(1, 3), UNKNOWN);
        busy("both turned round", x -> x.wed(3, 2), UNKNOWN);
        busy("she herself", x -> x.wed(0, 0), UNKNOWN);
        Due.is("who is not", Edge.busy().wed(0, 1), 10);
    }

    /** Promise 14: "UNKNOWN, NOT: she is not WED" */
    private static void divorceIsRefused() {
        busy("a girl who is not wed", x -> x.divorce(0), NOT);
        busy("a man who is not wed", x -> x.divorce(1), UNKNOWN);
        busy("a man who is wed", x -> x.divorce(3), UNKNOWN);
        busy("nobody", x -> x.divorce(4), UNKNOWN);
        busy("below all", x -> x.divorce(-1), UNKNOWN);
        Due.is("a girl who is wed", Edge.busy().divorce(2), 5);
    }

    /** Promise 15: "(1 .. 20) .. OUTSIDE, NOT: no TOWN" */
    private static void driftIsRefused() {
        for (int n : new int[] {0, -1, 21, 22, Integer.MIN_VALUE, Integer.MAX_VALUE}) {
            busy("drift(" + n + ")", x -> x.drift(n), OUTSIDE);
            full("drift(" + n + ")", x -> x.drift(n), OUTSIDE);
            Edge.refused("drift(" + n + ") without a town", Edge::bare, x -> x.drift(n), OUTSIDE);
        }
        for (int n : new int[] {1, 2, 19, 20}) {
            Edge.refused("drift(" + n + ") without a town", Edge::bare, x -> x.drift(n), NOT);
            DebtDowry x = Edge.busy();
            int owed = x.drift(n);
            Due.is("what is owed in all behind " + n, x.told(10), owed);
            Due.is("quarters behind " + n, x.told(6), n + 1);
            Due.is("deeds behind " + n, x.told(13), n + 4);
        }
    }

    /** Promise 16: "(1 .. 30) .. OUTSIDE, NOT: not so many" */
    private static void undoIsRefused() {
        for (int n : new int[] {0, -1, 31, 32, Integer.MIN_VALUE, Integer.MAX_VALUE}) {
            busy("undo(" + n + ")", x -> x.undo(n), OUTSIDE);
            full("undo(" + n + ")", x -> x.undo(n), OUTSIDE);
            Edge.refused("undo(" + n + ") without a town", Edge::bare, x -> x.undo(n), OUTSIDE);
        }
        for (int n : new int[] {5, 6, 29, 30}) {
            busy("undo(" + n + ") of four", x -> x.undo(n), NOT);
        }
        for (int n : new int[] {1, 30}) {
            Edge.refused("undo(" + n + ") without a town", Edge::bare, x -> x.undo(n), NOT);
            Edge.refused("undo(" + n + ") without a deed", RefusalEdgeTest::many, x -> x.undo(n), NOT);
        }
        Due.is("undo(4) of four", Edge.busy().undo(4), 0);
        Due.is("undo(3) of four", Edge.busy().undo(3), 1);
        Due.is("undo(30) of thirty", Edge.full().undo(30), 0);
        Due.is("undo(29) of thirty", Edge.full().undo(29), 1);
    }

    /** Promise 17: "UNKNOWN, NOT: one is WED" */
    private static void joinedIsRefused() {
        busy("joined: she is wed", x -> x.joined(2, 1), NOT);
        busy("joined: he is wed", x -> x.joined(0, 3), NOT);
        busy("joined: both are wed", x -> x.joined(2, 3), NOT);
        busy("joined: she is wed, he is not there", x -> x.joined(2, 4), UNKNOWN);
        busy("joined: she is wed, he is a girl", x -> x.joined(2, 0), UNKNOWN);
        busy("joined: he is wed, she is not there", x -> x.joined(-1, 3), UNKNOWN);
        busy("joined: he is wed, she is a man", x -> x.joined(1, 3), UNKNOWN);
        busy("joined: turned round", x -> x.joined(1, 0), UNKNOWN);
        Due.is("joined: who is not", Edge.busy().joined(0, 1), 10);
    }

    /** Promise 18: "UNKNOWN, OUTSIDE, NOT: a man who is WED" */
    private static void leastIsRefused() {
        for (int s : new int[] {0, -1, 37, 38, Integer.MIN_VALUE, Integer.MAX_VALUE}) {
            busy("least of " + s, x -> x.least(0, s, 0), OUTSIDE);
            busy("how much of " + s, x -> x.least(0, s, 1), OUTSIDE);
            busy("least of " + s + " by a wed man", x -> x.least(3, s, 0), OUTSIDE);
            busy("least of " + s + " by nobody", x -> x.least(4, s, 0), UNKNOWN);
        }
        for (int what : new int[] {-1, 2, 3, Integer.MIN_VALUE, Integer.MAX_VALUE}) {
            busy("least: what = " + what, x -> x.least(0, 1, what), OUTSIDE);
            busy("least: what = " + what + " by a wed man", x -> x.least(3, 1, what), OUTSIDE);
            busy("least: what = " + what + " by nobody", x -> x.least(-1, 1, what), UNKNOWN);
        }
        for (int s : new int[] {1, 36}) {
            busy("least of " + s + " by a wed man", x -> x.least(3, s, 0), NOT);
            busy("how much of " + s + " by a wed man", x -> x.least(3, s, 1), NOT);
            Due.isTrue("a man who is not wed", Edge.busy().least(1, s, 0) >= NONE);
            Due.isTrue("a girl who is wed", Edge.busy().least(2, s, 0) >= NONE);
        }
    }

    /** Promise 19: "NONE (also of one who FAILED). UNKNOWN, OUTSIDE." */
    private static void planIsRefused() {
        for (int n : new int[] {0, -1, 9, 10, Integer.MIN_VALUE, Integer.MAX_VALUE}) {
            busy("plan in " + n, x -> x.plan(0, 0, n, 0), OUTSIDE);
            busy("plan in " + n + " of one who failed", x -> x.plan(0, 1, n, 0), OUTSIDE);
            busy("plan in " + n + " by nobody", x -> x.plan(4, 0, n, 0), UNKNOWN);
            busy("plan in " + n + " with nobody", x -> x.plan(0, 2, n, 0), UNKNOWN);
        }
        for (int what : new int[] {-1, 2, 3, Integer.MIN_VALUE, Integer.MAX_VALUE}) {
            busy("plan: what = " + what, x -> x.plan(1, 0, 1, what), OUTSIDE);
            busy("plan: what = " + what + " of one who failed", x -> x.plan(1, 1, 1, what), OUTSIDE);
            busy("plan: what = " + what + " by nobody", x -> x.plan(4, 0, 1, what), UNKNOWN);
        }
        for (int n : new int[] {1, 8}) {
            for (int what = 0; what < 2; what++) {
                Due.isTrue("plan in " + n, Edge.busy().plan(1, 0, n, what) > 0);
                Due.is("of one who failed in " + n, Edge.busy().plan(1, 1, n, what), NONE);
                Due.is("of a wed man in " + n, Edge.busy().plan(3, 0, n, what), NONE);
            }
        }
    }

    /** Promise 20: "girl = NONE how many, else the man; NONE. UNKNOWN." */
    private static void matchesIsRefused() {
        busy("matches(-2)", x -> x.matches(-2), UNKNOWN);
        busy("matches of a man", x -> x.matches(1), UNKNOWN);
        busy("matches of a wed man", x -> x.matches(3), UNKNOWN);
        busy("matches(4)", x -> x.matches(4), UNKNOWN);
        busy("matches(UNKNOWN)", x -> x.matches(UNKNOWN), UNKNOWN);
        Edge.refused("matches(0) without a town", Edge::bare, x -> x.matches(0), UNKNOWN);
        Edge.refused("matches(0) without persons", Edge::noPersons, x -> x.matches(0), UNKNOWN);
    }

    /** Promise 22: "OUTSIDE" */
    private static void runIsRefused() {
        for (int n : new int[] {0, -1, 21, 22, Integer.MIN_VALUE, Integer.MAX_VALUE}) {
            for (Supplier<DebtDowry> made : Edge.states()) {
                Edge.refused("run(" + n + ")", made, x -> x.run(n), OUTSIDE);
            }
        }
        Due.is("run(1)", Edge.busy().run(1), 2);
        Due.is("run(20)", Edge.busy().run(20), 3);
    }

    /** Promise 24: "OUTSIDE" */
    private static void rumoursIsRefused() {
        for (int n : new int[] {-1, 61, 62, Integer.MIN_VALUE, Integer.MAX_VALUE}) {
            busy("rumours(" + n + ", 50)", x -> x.rumours(n, 50), OUTSIDE);
        }
        for (int q : new int[] {-1, 101, 102, Integer.MIN_VALUE, Integer.MAX_VALUE}) {
            busy("rumours(0, " + q + ")", x -> x.rumours(0, q), OUTSIDE);
        }
    }

    /** Promise 25: "UNKNOWN, OUTSIDE, FULL (6)" */
    private static void cardIsRefused() {
        for (int q : new int[] {-1, 13, 14, Integer.MIN_VALUE, Integer.MAX_VALUE}) {
            busy("card of " + q, x -> x.card(0, 0, q, true), OUTSIDE);
            full("card of " + q, x -> x.card(0, 0, q, true), OUTSIDE);
            busy("card of " + q + " by nobody", x -> x.card(4, 0, q, true), UNKNOWN);
            full("card of " + q + " by nobody", x -> x.card(8, 0, q, true), UNKNOWN);
        }
        for (int q : new int[] {0, 12}) {
            Due.is("card of " + q, Edge.busy().card(0, 0, q, false), 3);
            full("card of " + q + ", the seventh", x -> x.card(0, 0, q, true), FULL);
            full("card of " + q + " not civil, the seventh", x -> x.card(0, 0, q, false), FULL);
            full("card of " + q + " of nobody, the seventh", x -> x.card(0, 4, q, true), UNKNOWN);
        }
        Due.is("of one who failed", Edge.busy().card(0, 1, 0, true), 3);
        Due.is("of a wed man", Edge.busy().card(3, 0, 0, true), 3);
    }

    /** Promise 26: "UNKNOWN, OUTSIDE"; promise 27: "UNKNOWN" */
    private static void hadIsRefused() {
        for (int what : new int[] {-1, 3, 4, Integer.MIN_VALUE, Integer.MAX_VALUE}) {
            busy("had: what = " + what, x -> x.had(0, 0, what), OUTSIDE);
            busy("had: what = " + what + " by nobody", x -> x.had(4, 0, what), UNKNOWN);
            busy("had: what = " + what + " of nobody", x -> x.had(0, -1, what), UNKNOWN);
        }
        int[] due = {41, 10, 50};
        for (int what = 0; what < 3; what++) {
            Due.is("had: what = " + what, Edge.busy().had(0, 0, what), due[what]);
        }
    }

    /** Promise 28: "UNKNOWN, OUTSIDE, FULL (20)" */
    private static void writeIsRefused() {
        for (int standing : new int[] {-10, -11, 100, 101, Integer.MIN_VALUE, Integer.MAX_VALUE}) {
            busy("write " + standing, x -> x.write(0, standing), OUTSIDE);
            full("write " + standing, x -> x.write(0, standing), OUTSIDE);
            busy("write " + standing + " of nobody", x -> x.write(4, standing), UNKNOWN);
            full("write " + standing + " of nobody", x -> x.write(8, standing), UNKNOWN);
        }
        for (int standing : new int[] {-9, 0, 99}) {
            Due.is("write " + standing, Edge.busy().write(0, standing), 3);
            full("write " + standing + ", one too many", x -> x.write(0, standing), FULL);
            full("write " + standing + " of nobody, one too many", x -> x.write(-1, standing), UNKNOWN);
        }
    }

    /** Promise 31: "v (0 .. 2147483647) .. OUTSIDE" */
    private static void seedIsRefused() {
        for (int v : new int[] {-1, -2, UNKNOWN, Integer.MIN_VALUE}) {
            for (Supplier<DebtDowry> made : Edge.states()) {
                Edge.refused("seed(" + v + ")", made, x -> x.seed(v), OUTSIDE);
            }
        }
        for (int v : new int[] {0, 1, 2147483646, 2147483647}) {
            DebtDowry x = Edge.busy();
            Due.is("seed(" + v + ")", x.seed(v), 78);
            Due.is("it was " + v, x.seed(0), v);
        }
    }

    /** Promises 32 and 33: "UNKNOWN", "NOT: it was not kept" */
    private static void imagesAreRefused() {
        busy("image 1 was not kept", x -> x.goBack(1), NOT);
        Edge.refused("image 0 was not kept", Edge::noPersons, x -> x.goBack(0), NOT);
        Edge.refused("image 0 without a town", Edge::bare, x -> x.goBack(0), NOT);
        Edge.refused("image 1 without a town", Edge::bare, x -> x.goBack(1), NOT);
        full("image 2", x -> x.goBack(2), UNKNOWN);
        full("keep(2)", x -> x.keep(2), UNKNOWN);
        Due.is("goBack(0)", Edge.busy().goBack(0), 1);
        Due.is("keep(1)", Edge.busy().keep(1), 1);
        Due.is("goBack(1) of both", Edge.full().goBack(1), 1);
    }

    /** No TOWN, no CREDITORS, no PERSONS: nobody is known, and nothing is owed. */
    private static void allIsEmpty() {
        int creditors = 0;
        for (Supplier<DebtDowry> made : Edge.states().subList(0, 3)) {
            creditors = made.get().told(3);
            Edge.refused("empty: person(0, 0)", made, x -> x.person(0, 0), UNKNOWN);
            Edge.refused("empty: owes(0, 0)", made, x -> x.owes(0, 0), UNKNOWN);
            Edge.refused("empty: temper(0, 0)", made, x -> x.temper(0, 0), UNKNOWN);
            Edge.refused("empty: borrow(0, 0, 1)", made, x -> x.borrow(0, 0, 1), UNKNOWN);
            Edge.refused("empty: pay(0, 0, 1)", made, x -> x.pay(0, 0, 1), UNKNOWN);
            Edge.refused("empty: wed(0, 1)", made, x -> x.wed(0, 1), UNKNOWN);
            Edge.refused("empty: divorce(0)", made, x -> x.divorce(0), UNKNOWN);
            Edge.refused("empty: undo(1)", made, x -> x.undo(1), NOT);
            Edge.refused("empty: joined(0, 1)", made, x -> x.joined(0, 1), UNKNOWN);
            Edge.refused("empty: least(0, 1, 0)", made, x -> x.least(0, 1, 0), UNKNOWN);
            Edge.refused("empty: plan(0, 0, 1, 0)", made, x -> x.plan(0, 0, 1, 0), UNKNOWN);
            Edge.refused("empty: credit(0, 0)", made, x -> x.credit(0, 0), UNKNOWN);
            Edge.refused("empty: card(0, 0, 0, true)", made, x -> x.card(0, 0, 0, true), UNKNOWN);
            Edge.refused("empty: had(0, 0, 0)", made, x -> x.had(0, 0, 0), UNKNOWN);
            Edge.refused("empty: lookAt(0, 0)", made, x -> x.lookAt(0, 0), UNKNOWN);
            Edge.refused("empty: write(0, 0)", made, x -> x.write(0, 0), UNKNOWN);
            DebtDowry x = made.get();
            Due.is("empty: matches(NONE)", x.matches(NONE), 0);
            Due.is("empty: failing()", x.failing(), 0);
            Due.is("empty: run(20)", x.run(20), 0);
            Due.is("empty: judge()", x.judge(), NONE);
            Due.is("empty: tear()", x.tear(), 0);
            Due.is("empty: told(10)", x.told(10), 0);
            Due.is("empty: told(13)", x.told(13), 0);
        }
        Due.is("creditors, though no persons", creditors, 2);
        Due.is("creditor(1, 0) without persons", Edge.noPersons().creditor(1, 0), 8);
        Due.is("creditor(1, 4) without persons", Edge.noPersons().creditor(1, 4), 0);
        Due.is("creditor(0, 0) without creditors", Edge.noCreditors().creditor(0, 0), UNKNOWN);
        Due.is("quarter(1) without creditors", Edge.noCreditors().quarter(1), 0);
        Due.is("quarter(1) without persons", Edge.noPersons().quarter(1), 0);
        Due.is("quarter(1) without a town", Edge.bare().quarter(1), NOT);
    }

    /** All there can be of each. */
    private static void allIsFull() {
        DebtDowry x = Edge.full();
        int[] due = {1, 0, 0, 4, 8, 0, 30, 85, 0, 8, 24, 6, 20, 30};
        for (int what = 0; what <= 13; what++) {
            Due.is("full: told(" + what + ")", x.told(what), due[what]);
        }
        Due.is("full: card", x.card(0, 0, 0, true), FULL);
        Due.is("full: write", x.write(0, 0), FULL);
        Due.is("full: a deed more", x.borrow(7, 2, 9), 11);
        Due.is("full: thirty deeds", x.told(13), 30);
        Due.is("full: undo(30)", x.undo(30), 1);
        Due.is("full: the last person and creditor", x.owes(7, 3), 0);
        x.goBack(0);
        Due.is("full: ahead of the first quarter", x.owes(7, 3), 3);
    }

    /** "A SET is a whole number, bit k for k": up to the last person and creditor */
    private static void setsOfAll() {
        DebtDowry girls = Due.townOf("i0 0;c0 2 3 1;g1;g2;g3;g4;g1;g2;g3;g4;");
        Due.is("girls", girls.told(7), 255);
        Due.is("the civil", girls.creditor(0, 4), 2 + 4 + 32 + 64);
        Due.is("the sour", girls.creditor(0, 5), 8 + 128);
        for (int p = 0; p < 8; p++) {
            StringBuilder text = new StringBuilder("i0 0;c99 2 3 1;");
            for (int q = 0; q < 8; q++) {
                text.append(q == p ? "g2;" : "m4;");
            }
            DebtDowry x = Due.townOf(text.toString());
            Due.is("the only girl " + p, x.told(7), 1 << p);
            Due.is("the only civil " + p, x.creditor(0, 4), 1 << p);
            Due.is("the only ones sour beside " + p, x.creditor(0, 5), 255 - (1 << p));
            x.wed(p, p == 7 ? 0 : 7);
            Due.is("the wed " + p, x.told(8), p == 7 ? 129 : 128 | 1 << p);
        }
        for (int c = 0; c < 4; c++) {
            StringBuilder text = new StringBuilder("i0 0;c5 1 2 1;c5 1 2 1;c5 1 2 1;c5 1 2 1;g");
            for (int d = 0; d < 4; d++) {
                text.append(d == 0 ? "" : ",").append(d == c ? 6 : 1);
            }
            DebtDowry x = Due.townOf(text.append(";").toString());
            Due.is("failing " + c, x.failing(), 1 << c);
            Due.is("run " + c, x.run(20), 1 << c);
            x.pay(0, c, 1);
            Due.is("insulted " + c, x.person(0, 4), 1 << c);
            x.undo(1);
            x.quarter(1);
            Due.is("failed " + c, x.told(9), 1 << c);
        }
    }

    /** Promise 3: "no QUARTERS, INSULTS, nobody WED, FAILED; no CARDS, no BOOK; IMAGES .. are gone; THE SEED stays" */
    private static void townEmptiesAll() {
        String text = "i1 2;c3 4 5 6;g7;m8;g4;m0;";
        for (Supplier<DebtDowry> made : Edge.states()) {
            DebtDowry x = made.get();
            if (x.told(5) > 0) {
                x.town();
            }
            int seed = x.seed(5);
            x.seed(seed);
            Due.is("persons", Due.tell(x, text), 4);
            DebtDowry fresh = Due.townOf(text);
            fresh.seed(seed);
            Edge.isAs("a town behind another is as a new one", x, fresh);
        }
    }

    /** Promise 1: "No TOWN.": objects have nothing of one another. */
    private static void newObjects() {
        DebtDowry old = Edge.full();
        Edge.isAs("a new object beside a full one", new DebtDowry(), new DebtDowry());
        DebtDowry x = new DebtDowry();
        for (int what = 0; what <= 13; what++) {
            Due.is("new: told(" + what + ")", x.told(what), 0);
        }
        Due.is("new: fault()", x.fault(), NONE);
        Due.is("the other is as it was", old.told(4), 8);
    }
}
