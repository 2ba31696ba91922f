/** Counts and prints the answers that are not as due. */
final class Due {
    private static int wrong = 0;

    private Due() {
    }

    static void is(String call, long got, long want) {
        if (got != want) {
            wrong++;
            if (wrong <= 50) {
                System.out.println(call + " answered " + got + ", due is " + want);
            }
        }
    }

    static void isTrue(String claim, boolean holds) {
        is(claim, holds ? 1 : 0, 1);
    }

    static boolean anyWrong() {
        return wrong > 0;
    }

    static void end() {
        System.out.println(wrong == 0 ? "all answers are as due" : wrong + " answers are not as due");
        if (wrong != 0) {
            System.exit(1);
        }
    }

    static void feedAll(DebtDowry x, String text) {
        for (int i = 0; i < text.length(); i++) {
            x.feed(text.charAt(i));
        }
    }

    static int tell(DebtDowry x, String text) {
        feedAll(x, text);
        return x.town();
    }

    static DebtDowry townOf(String text) {
        DebtDowry x = new DebtDowry();
        if (tell(x, text) < 0) {
            is("the town of " + text, 1, 0);
        }
        return x;
    }
}
