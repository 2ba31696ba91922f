import java.util.ArrayList;
import java.util.Arrays;
import java.util.List;
import java.util.function.Supplier;
import java.util.function.ToIntFunction;

/** What the edge tests share: states to start from, and all that can be seen of one. */
final class Edge {
    /** Numbers that are in no bounds of the document, on both sides. */
    static final int[] FAR = {Integer.MIN_VALUE, -1000000001, -2, Integer.MAX_VALUE - 1, Integer.MAX_VALUE};

    private Edge() {
    }

    static DebtDowry bare() {
        return new DebtDowry();
    }

    static DebtDowry noCreditors() {
        return Due.townOf("i5 6;");
    }

    static DebtDowry noPersons() {
        return Due.townOf("i5 6;c7 1 2 3;c8 1 2 3;");
    }

    /** Creditor 1 failed, girl 0 has insulted creditor 0, girl 2 and man 3 are wed; image 1 is not kept. */
    static DebtDowry busy() {
        DebtDowry x = Due.townOf("i10 50;c100 10 50 4;c30 20 40 7;g20,25;m60,0;g0,0;m10,45;");
        x.seed(77);
        x.keep(0);
        x.seed(78);
        x.quarter(1);
        x.pay(0, 0, 12);
        x.wed(2, 3);
        x.borrow(0, 0, 1);
        x.card(0, 0, 0, true);
        x.card(1, 1, 2, false);
        x.write(0, 0);
        x.write(1, 4);
        Due.feedAll(x, "x");
        x.town();
        Due.feedAll(x, "i3");
        return x;
    }

    /** Four creditors, eight persons, six cards, twenty entries, thirty deeds, and both images. */
    static DebtDowry full() {
        DebtDowry x = Due.townOf("i0 0;c9 1 2 1;c9 1 2 1;c9 1 2 1;c9 1 2 1;g0,1,2,3;m0,1,2,3;g0,1,2,3;m0,1,2,3;"
            + "g0,1,2,3;m0,1,2,3;g0,1,2,3;m0,1,2,3;");
        x.keep(0);
        x.keep(1);
        for (int i = 0; i < 6; i++) {
            x.card(0, 0, 12, false);
        }
        for (int i = 0; i < 20; i++) {
            x.write(7, 2);
        }
        x.quarter(20);
        x.quarter(10);
        return x;
    }

    /** A purse of 9999, and girl 0 owes 9999; nobody else owes anything, and nobody failed. */
    static DebtDowry rich() {
        DebtDowry x = Due.townOf("i30 100;c999 1 999 1;g768;m768;g768;m768;g768;m768;g768;m768;");
        for (int round = 0; round < 6; round++) {
            x.quarter(1);
            for (int p = 0; p < 8; p++) {
                x.pay(p, 0, 230);
            }
        }
        for (int p = 1; p < 8; p++) {
            x.pay(p, 0, 768);
        }
        x.quarter(10);
        return x;
    }

    static List<Supplier<DebtDowry>> states() {
        return List.of(Edge::bare, Edge::noCreditors, Edge::noPersons, Edge::busy, Edge::full, Edge::rich);
    }

    /** The call answers the refusal, and all that can be seen is then as without it. */
    static void refused(String call, Supplier<DebtDowry> made, ToIntFunction<DebtDowry> asked, int due) {
        DebtDowry x = made.get();
        Due.is(call, asked.applyAsInt(x), due);
        isAs(call + " changes nothing", x, made.get());
    }

    static void isAs(String claim, DebtDowry x, DebtDowry y) {
        List<String> names = new ArrayList<>();
        int[] got = seen(x, names);
        names.clear();
        int[] want = seen(y, names);
        if (Arrays.equals(got, want)) {
            return;
        }
        for (int i = 0; i < want.length; i++) {
            Due.is(claim + ": " + names.get(i), i < got.length ? got[i] : DebtDowry.NONE, want[i]);
        }
        Due.is(claim + ": as much is seen", got.length, want.length);
    }

    /** All that can be seen of it; it is used up by that, since images and the text are looked at, too. */
    private static int[] seen(DebtDowry x, List<String> names) {
        List<Integer> all = new ArrayList<>();
        int creditors = x.told(3);
        int persons = x.told(4);
        lookAround(x, creditors, persons, all, names);
        for (int p = 0; p < persons; p++) {
            for (int c = 0; c < creditors; c++) {
                note(all, names, "temper(" + p + ", " + c + ")", x.temper(p, c));
                note(all, names, "had(" + p + ", " + c + ", 0)", x.had(p, c, 0));
            }
        }
        note(all, names, "fault()", x.fault());
        note(all, names, "judge()", x.judge());
        note(all, names, "the seed", x.seed(0));
        int deeds = x.told(13);
        for (int i = 0; i < deeds; i++) {
            note(all, names, "undo(1)", x.undo(1));
            note(all, names, "owed in all behind undo(1)", x.told(10));
        }
        for (int i = 0; i < 2; i++) {
            note(all, names, "goBack(" + i + ")", x.goBack(i));
            note(all, names, "the seed of image " + i, x.seed(0));
            note(all, names, "owed in all in image " + i, x.told(10));
            note(all, names, "quarters in image " + i, x.told(6));
            note(all, names, "wed in image " + i, x.told(8));
        }
        note(all, names, "the text's town()", x.town());
        note(all, names, "the text's fault()", x.fault());
        return all.stream().mapToInt(Integer::intValue).toArray();
    }

    private static void lookAround(DebtDowry x, int creditors, int persons, List<Integer> all, List<String> names) {
        for (int what = 0; what <= 13; what++) {
            note(all, names, "told(" + what + ")", x.told(what));
        }
        for (int c = 0; c < creditors; c++) {
            for (int what = 0; what <= 5; what++) {
                note(all, names, "creditor(" + c + ", " + what + ")", x.creditor(c, what));
            }
        }
        for (int p = 0; p < persons; p++) {
            for (int what = 0; what <= 4; what++) {
                note(all, names, "person(" + p + ", " + what + ")", x.person(p, what));
            }
            for (int c = 0; c < creditors; c++) {
                note(all, names, "owes(" + p + ", " + c + ")", x.owes(p, c));
            }
        }
    }

    private static void note(List<Integer> all, List<String> names, String name, int value) {
        all.add(value);
        names.add(name);
    }
}
