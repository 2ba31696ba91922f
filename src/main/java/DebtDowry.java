/** A town where a bride brings what she owes. The document's promises say what each call answers. */
public final class DebtDowry {
    public static final int NONE = -1, UNKNOWN = -1000000001, OUTSIDE = -1000000002, NOT = -1000000003, FULL = -1000000004;

    private static final int MOST_LETTERS = 240;
    private static final int MOST_CREDITORS = 4;
    private static final int MOST_PERSONS = 8;
    private static final int MOST_FIGURES = 3;
    private static final int MOST_TOLD = 999;
    private static final int MOST_OWED = 9999;
    private static final int MOST_IN_PURSE = 9999;
    private static final int MOST_AT_ONCE = 20;
    private static final int LATEST_QUARTER = 9000;
    private static final int MOST_UNDONE = 30;
    private static final int MOST_CARDS = 6;
    private static final int LAST_LOOK = 12;
    private static final int SUMS = 100;
    private static final int MOST_ENTRIES = 20;
    private static final int MOST_IMAGES = 2;
    private static final int MOST_PLANNED = 8;
    private static final int BEYOND_ALL = 1000000;
    private static final int BILLION = 1000000000;
    private static final int STANDING_SHIFT = 10;

    private static final int COLD = 0;
    private static final int CIVIL = 1;
    private static final int SOUR = 2;
    private static final int FAILED = 3;

    private final Reader reader;
    private final Terms terms;
    private final State now;
    private final State tried;
    private final History history;
    private final Matcher matcher;
    private final Planner planner;
    private final Cards cards;
    private final Book book;
    private final Image[] images;
    private int luck;

    public DebtDowry() {
        reader = new Reader();
        terms = new Terms();
        now = new State(terms);
        tried = new State(terms);
        history = new History(terms);
        matcher = new Matcher();
        planner = new Planner();
        cards = new Cards();
        book = new Book();
        images = new Image[MOST_IMAGES];
        for (int i = 0; i < MOST_IMAGES; i++) {
            images[i] = new Image(terms);
        }
        luck = 0;
    }

    // ---- the town

    public int feed(int letter) {
        if (letter < 0 || letter > 255) {
            return OUTSIDE;
        }
        return reader.add(letter) ? reader.length : FULL;
    }

    public int town() {
        reader.readAll();
        if (reader.faultKind != 0) {
            return -10 - reader.faultKind;
        }
        terms.take(reader.terms);
        now.take(reader.state);
        history.forget();
        cards.count = 0;
        book.count = 0;
        for (int i = 0; i < MOST_IMAGES; i++) {
            images[i].kept = false;
        }
        return terms.persons;
    }

    public int fault() {
        return reader.faultAt;
    }

    public int told(int what) {
        switch (what) {
            case 0: return terms.there ? 1 : 0;
            case 1: return terms.interest;
            case 2: return terms.mildness;
            case 3: return terms.creditors;
            case 4: return terms.persons;
            case 5: return reader.length;
            case 6: return now.quarters;
            case 7: return terms.girls;
            case 8: return now.wedSet();
            case 9: return now.failed;
            case 10: return now.owedInAll();
            case 11: return cards.count;
            case 12: return book.count;
            case 13: return history.count;
            default: return OUTSIDE;
        }
    }

    public int creditor(int c, int what) {
        if (!terms.hasCreditor(c)) {
            return UNKNOWN;
        }
        switch (what) {
            case 0: return now.purse[c];
            case 1: return terms.low[c];
            case 2: return terms.high[c];
            case 3: return terms.great[c];
            case 4: return now.personsByMood(c, CIVIL);
            case 5: return now.personsByMood(c, SOUR);
            default: return OUTSIDE;
        }
    }

    public int person(int p, int what) {
        if (!terms.hasPerson(p)) {
            return UNKNOWN;
        }
        switch (what) {
            case 0: return terms.isGirl(p) ? 1 : 0;
            case 1: return now.spouse[p];
            case 2: return now.owedTogether(p);
            case 3: return now.standingOf(p);
            case 4: return now.insults[p];
            default: return OUTSIDE;
        }
    }

    public int owes(int p, int c) {
        return terms.hasBoth(p, c) ? now.owedTo(p, c) : UNKNOWN;
    }

    public int temper(int p, int c) {
        return terms.hasBoth(p, c) ? now.moodTo(p, c) : UNKNOWN;
    }

    // ---- deeds

    public int borrow(int p, int c, int coins) {
        if (!terms.hasBoth(p, c)) {
            return UNKNOWN;
        }
        if (coins < 1 || coins > MOST_TOLD) {
            return OUTSIDE;
        }
        if (!now.mayBorrow(p, c, coins)) {
            return NOT;
        }
        history.note(now);
        now.lend(p, c, coins);
        return now.owedTo(p, c);
    }

    public int pay(int p, int c, int coins) {
        if (!terms.hasBoth(p, c)) {
            return UNKNOWN;
        }
        if (coins < 1 || coins > MOST_OWED) {
            return OUTSIDE;
        }
        if (coins > now.owedTo(p, c)) {
            return NOT;
        }
        history.note(now);
        now.settle(p, c, coins);
        return now.owedTo(p, c);
    }

    public int quarter(int n) {
        int refusal = refusalOfQuarters(n);
        if (refusal != 0) {
            return refusal;
        }
        int fallen = 0;
        for (int i = 0; i < n; i++) {
            history.note(now);
            fallen |= now.passQuarter();
        }
        return Integer.bitCount(fallen);
    }

    public int wed(int girl, int man) {
        int refusal = refusalOfPair(girl, man);
        if (refusal != 0) {
            return refusal;
        }
        history.note(now);
        now.unite(girl, man);
        return now.standingOf(girl) + STANDING_SHIFT;
    }

    public int divorce(int girl) {
        if (!terms.isGirl(girl)) {
            return UNKNOWN;
        }
        int man = now.spouse[girl];
        if (!terms.hasPerson(man)) {
            return NOT;
        }
        history.note(now);
        now.part(girl, man);
        return now.owedTogether(man);
    }

    public int drift(int n) {
        int refusal = refusalOfQuarters(n);
        if (refusal != 0) {
            return refusal;
        }
        for (int i = 0; i < n; i++) {
            history.note(now);
            borrowByDraws();
            now.passQuarter();
        }
        return now.owedInAll();
    }

    public int undo(int n) {
        if (n < 1 || n > MOST_UNDONE) {
            return OUTSIDE;
        }
        if (n > history.count) {
            return NOT;
        }
        history.restore(now, n);
        return now.quarters;
    }

    // ---- tried

    public int joined(int girl, int man) {
        int refusal = refusalOfPair(girl, man);
        if (refusal != 0) {
            return refusal;
        }
        return now.standingJoined(girl, man) + STANDING_SHIFT;
    }

    public int least(int p, int s, int what) {
        if (!terms.hasPerson(p)) {
            return UNKNOWN;
        }
        if (s < 1 || s > 36 || what < 0 || what > 1) {
            return OUTSIDE;
        }
        if (now.isWedMan(p)) {
            return NOT;
        }
        int set = now.cheapestSet(p, s);
        return set == NONE || what == 0 ? set : now.coinsFor(p, set);
    }

    public int plan(int p, int c, int n, int what) {
        if (!terms.hasBoth(p, c)) {
            return UNKNOWN;
        }
        if (n < 1 || n > MOST_PLANNED || what < 0 || what > 1) {
            return OUTSIDE;
        }
        if (now.hasFailed(c) || !planner.work(terms, c, now.owedTo(p, c), n)) {
            return NONE;
        }
        return what == 0 ? planner.together : planner.first;
    }

    public int matches(int girl) {
        if (girl != NONE && !terms.isGirl(girl)) {
            return UNKNOWN;
        }
        int pairs = matcher.pairAll(now);
        return girl == NONE ? pairs : matcher.manOf[girl];
    }

    public int failing() {
        tried.take(now);
        return tried.passQuarter();
    }

    public int run(int n) {
        if (n < 1 || n > MOST_AT_ONCE) {
            return OUTSIDE;
        }
        tried.take(now);
        for (int i = 0; i < n; i++) {
            tried.passQuarter();
        }
        return tried.failed;
    }

    public int credit(int p, int c) {
        if (!terms.hasBoth(p, c)) {
            return UNKNOWN;
        }
        int owed = now.owedTo(p, c);
        int most = Math.min(now.purse[c], terms.high[c] - owed);
        if (most < 0 || most > 0 && !now.mayBorrow(p, c, most)) {
            return NONE;
        }
        return now.moodBy(c, owed + most, now.hasInsulted(p, c)) == CIVIL ? most : NONE;
    }

    public int rumours(int n, int q) {
        if (n < 0 || n > 60 || q < 0 || q > 100) {
            return OUTSIDE;
        }
        long odds = BILLION;
        for (int i = 0; i < n; i++) {
            odds = odds * (100 - q) / 100;
        }
        return (int) odds;
    }

    // ---- cards

    public int card(int p, int c, int q, boolean civil) {
        if (!terms.hasBoth(p, c)) {
            return UNKNOWN;
        }
        if (q < 0 || q > LAST_LOOK) {
            return OUTSIDE;
        }
        return cards.add(p, c, q, civil) ? cards.count : FULL;
    }

    public int had(int p, int c, int what) {
        if (!terms.hasBoth(p, c)) {
            return UNKNOWN;
        }
        if (what < 0 || what > 2) {
            return OUTSIDE;
        }
        cards.sift(terms, p, c);
        return what == 0 ? cards.fitting : what == 1 ? cards.leastSum() : cards.mostSum();
    }

    public int lookAt(int p, int c) {
        if (!terms.hasBoth(p, c)) {
            return UNKNOWN;
        }
        cards.sift(terms, p, c);
        return cards.bestLook(terms, c);
    }

    public int write(int p, int standing) {
        if (!terms.hasPerson(p)) {
            return UNKNOWN;
        }
        if (standing < -9 || standing > 99) {
            return OUTSIDE;
        }
        return book.add(p, standing) ? book.count : FULL;
    }

    public int judge() {
        return book.firstWrong(now);
    }

    public int tear() {
        int both = cards.count + book.count;
        cards.count = 0;
        book.count = 0;
        return both;
    }

    // ---- images

    public int seed(int v) {
        if (v < 0) {
            return OUTSIDE;
        }
        int before = luck;
        luck = v;
        return before;
    }

    public int keep(int i) {
        if (i < 0 || i >= MOST_IMAGES) {
            return UNKNOWN;
        }
        images[i].state.take(now);
        images[i].luck = luck;
        images[i].kept = true;
        history.forget();
        return 1;
    }

    public int goBack(int i) {
        if (i < 0 || i >= MOST_IMAGES) {
            return UNKNOWN;
        }
        if (!images[i].kept) {
            return NOT;
        }
        now.take(images[i].state);
        luck = images[i].luck;
        history.forget();
        return 1;
    }

    // ---- what several calls share

    private int refusalOfQuarters(int n) {
        if (n < 1 || n > MOST_AT_ONCE) {
            return OUTSIDE;
        }
        if (!terms.there) {
            return NOT;
        }
        return now.quarters > LATEST_QUARTER ? FULL : 0;
    }

    private int refusalOfPair(int girl, int man) {
        if (!terms.isGirl(girl) || !terms.isMan(man)) {
            return UNKNOWN;
        }
        return now.spouse[girl] != NONE || now.spouse[man] != NONE ? NOT : 0;
    }

    private int drawOf(int n) {
        luck = (int) ((luck * 1103515245L + 12345L) & 2147483647L);
        return n > 0 ? luck / 65536 % n : 0;
    }

    private void borrowByDraws() {
        if (terms.persons == 0) {
            return;
        }
        int p = drawOf(terms.persons);
        int c = drawOf(terms.creditors);
        int coins = drawOf(100);
        if (terms.hasBoth(p, c) && now.mayBorrow(p, c, coins)) {
            now.lend(p, c, coins);
        }
    }

    /** What the text told, and no deed changes. */
    private static final class Terms {
        boolean there;
        int interest;
        int mildness;
        int creditors;
        int persons;
        int girls;
        final int[] low = new int[MOST_CREDITORS];
        final int[] high = new int[MOST_CREDITORS];
        final int[] great = new int[MOST_CREDITORS];

        void clear() {
            there = false;
            interest = 0;
            mildness = 0;
            creditors = 0;
            persons = 0;
            girls = 0;
        }

        void take(Terms other) {
            there = other.there;
            interest = other.interest;
            mildness = other.mildness;
            creditors = other.creditors;
            persons = other.persons;
            girls = other.girls;
            System.arraycopy(other.low, 0, low, 0, MOST_CREDITORS);
            System.arraycopy(other.high, 0, high, 0, MOST_CREDITORS);
            System.arraycopy(other.great, 0, great, 0, MOST_CREDITORS);
        }

        boolean hasPerson(int p) {
            return p >= 0 && p < persons;
        }

        boolean hasCreditor(int c) {
            return c >= 0 && c < creditors;
        }

        boolean hasBoth(int p, int c) {
            return hasPerson(p) && hasCreditor(c);
        }

        boolean isGirl(int p) {
            return hasPerson(p) && (girls >> p & 1) == 1;
        }

        boolean isMan(int p) {
            return hasPerson(p) && (girls >> p & 1) == 0;
        }

        int grown(int sum) {
            return Math.min(MOST_OWED, sum + sum * interest / 100);
        }

        boolean within(int c, int sum) {
            return sum >= low[c] && sum <= high[c];
        }
    }

    /** What deeds change: all that is undone, and kept in images. */
    private static final class State {
        final Terms terms;
        final int[] owed = new int[MOST_PERSONS * MOST_CREDITORS];
        final int[] purse = new int[MOST_CREDITORS];
        final int[] insults = new int[MOST_PERSONS];
        final int[] spouse = new int[MOST_PERSONS];
        int failed;
        int quarters;

        State(Terms terms) {
            this.terms = terms;
        }

        void clear() {
            for (int i = 0; i < MOST_PERSONS * MOST_CREDITORS; i++) {
                owed[i] = 0;
            }
            for (int c = 0; c < MOST_CREDITORS; c++) {
                purse[c] = 0;
            }
            for (int p = 0; p < MOST_PERSONS; p++) {
                insults[p] = 0;
                spouse[p] = NONE;
            }
            failed = 0;
            quarters = 0;
        }

        void take(State other) {
            System.arraycopy(other.owed, 0, owed, 0, MOST_PERSONS * MOST_CREDITORS);
            System.arraycopy(other.purse, 0, purse, 0, MOST_CREDITORS);
            System.arraycopy(other.insults, 0, insults, 0, MOST_PERSONS);
            System.arraycopy(other.spouse, 0, spouse, 0, MOST_PERSONS);
            failed = other.failed;
            quarters = other.quarters;
        }

        int owedTo(int p, int c) {
            return owed[p * MOST_CREDITORS + c];
        }

        void setOwed(int p, int c, int sum) {
            owed[p * MOST_CREDITORS + c] = Math.min(MOST_OWED, sum);
        }

        int owedTogether(int p) {
            int sum = 0;
            for (int c = 0; c < terms.creditors; c++) {
                sum += owedTo(p, c);
            }
            return sum;
        }

        int owedInAll() {
            int sum = 0;
            for (int p = 0; p < terms.persons; p++) {
                sum += owedTogether(p);
            }
            return sum;
        }

        int wedSet() {
            int set = 0;
            for (int p = 0; p < terms.persons; p++) {
                if (spouse[p] != NONE) {
                    set |= 1 << p;
                }
            }
            return set;
        }

        boolean isWedMan(int p) {
            return terms.isMan(p) && spouse[p] != NONE;
        }

        boolean hasFailed(int c) {
            return (failed >> c & 1) == 1;
        }

        boolean hasInsulted(int p, int c) {
            return (insults[p] >> c & 1) == 1;
        }

        int moodBy(int c, int sum, boolean insulted) {
            if (hasFailed(c)) {
                return FAILED;
            }
            if (insulted || sum < terms.low[c]) {
                return COLD;
            }
            return sum <= terms.high[c] ? CIVIL : SOUR;
        }

        int moodTo(int p, int c) {
            return moodBy(c, owedTo(p, c), hasInsulted(p, c));
        }

        int personsByMood(int c, int mood) {
            int set = 0;
            for (int p = 0; p < terms.persons; p++) {
                if (moodTo(p, c) == mood) {
                    set |= 1 << p;
                }
            }
            return set;
        }

        int worthOf(int c, int mood) {
            return mood == CIVIL ? terms.great[c] : mood == SOUR ? -1 : 0;
        }

        int standingOf(int p) {
            int standing = 0;
            for (int c = 0; c < terms.creditors; c++) {
                standing += worthOf(c, moodTo(p, c));
            }
            return standing;
        }

        int standingJoined(int girl, int man) {
            int standing = 0;
            for (int c = 0; c < terms.creditors; c++) {
                boolean insulted = hasInsulted(girl, c) || hasInsulted(man, c);
                int sum = Math.min(MOST_OWED, owedTo(girl, c) + owedTo(man, c));
                standing += worthOf(c, moodBy(c, sum, insulted));
            }
            return standing;
        }

        boolean mayBorrow(int p, int c, int coins) {
            return !isWedMan(p) && !hasFailed(c) && purse[c] >= coins;
        }

        void lend(int p, int c, int coins) {
            setOwed(p, c, owedTo(p, c) + coins);
            purse[c] -= coins;
        }

        void settle(int p, int c, int coins) {
            int before = owedTo(p, c);
            if (coins * 100 > terms.mildness * before) {
                insults[p] |= 1 << c;
            }
            setOwed(p, c, before - coins);
            purse[c] = Math.min(MOST_IN_PURSE, purse[c] + coins);
        }

        void unite(int girl, int man) {
            for (int c = 0; c < terms.creditors; c++) {
                setOwed(girl, c, owedTo(girl, c) + owedTo(man, c));
                setOwed(man, c, 0);
            }
            insults[girl] |= insults[man];
            insults[man] = 0;
            spouse[girl] = man;
            spouse[man] = girl;
        }

        void part(int girl, int man) {
            for (int c = 0; c < terms.creditors; c++) {
                int half = owedTo(girl, c) / 2;
                setOwed(man, c, half);
                setOwed(girl, c, owedTo(girl, c) - half);
            }
            insults[man] = insults[girl];
            spouse[girl] = NONE;
            spouse[man] = NONE;
        }

        /** Answers the SET of those who fail in it. */
        int passQuarter() {
            for (int p = 0; p < terms.persons; p++) {
                insults[p] = 0;
                for (int c = 0; c < terms.creditors; c++) {
                    setOwed(p, c, terms.grown(owedTo(p, c)));
                }
            }
            int fallen = 0;
            for (int c = 0; c < terms.creditors; c++) {
                if (!hasFailed(c) && owedSourly(c) > purse[c]) {
                    fallen |= 1 << c;
                    forgive(c);
                }
            }
            failed |= fallen;
            quarters++;
            return fallen;
        }

        private int owedSourly(int c) {
            int sum = 0;
            for (int p = 0; p < terms.persons; p++) {
                if (moodTo(p, c) == SOUR) {
                    sum += owedTo(p, c);
                }
            }
            return sum;
        }

        private void forgive(int c) {
            for (int p = 0; p < terms.persons; p++) {
                setOwed(p, c, 0);
            }
        }

        private boolean mayReachLow(int p, int c) {
            boolean cold = moodTo(p, c) == COLD && !hasInsulted(p, c);
            return cold && mayBorrow(p, c, terms.low[c] - owedTo(p, c));
        }

        int coinsFor(int p, int set) {
            int coins = 0;
            for (int c = 0; c < terms.creditors; c++) {
                if ((set >> c & 1) == 1) {
                    coins += terms.low[c] - owedTo(p, c);
                }
            }
            return coins;
        }

        private int worthOfSet(int set) {
            int worth = 0;
            for (int c = 0; c < terms.creditors; c++) {
                if ((set >> c & 1) == 1) {
                    worth += terms.great[c];
                }
            }
            return worth;
        }

        int cheapestSet(int p, int s) {
            int open = 0;
            for (int c = 0; c < terms.creditors; c++) {
                if (mayReachLow(p, c)) {
                    open |= 1 << c;
                }
            }
            int standing = standingOf(p);
            int best = NONE;
            int bestCoins = BEYOND_ALL;
            for (int set = 0; set < 1 << MOST_CREDITORS; set++) {
                boolean reaches = (set & ~open) == 0 && standing + worthOfSet(set) >= s;
                if (reaches && coinsFor(p, set) < bestCoins) {
                    best = set;
                    bestCoins = coinsFor(p, set);
                }
            }
            return best;
        }
    }

    /** Reads the text into terms and a state of its own, so that a fault leaves all as it was. */
    private static final class Reader {
        final Terms terms = new Terms();
        final State state = new State(terms);
        private final int[] letters = new int[MOST_LETTERS];
        int length;
        int faultKind;
        int faultAt = NONE;
        private int at;
        private int numberAt;

        boolean add(int letter) {
            if (length >= MOST_LETTERS) {
                return false;
            }
            letters[length] = letter;
            length++;
            return true;
        }

        void readAll() {
            terms.clear();
            state.clear();
            faultKind = 0;
            faultAt = NONE;
            at = 0;
            // Blanks may stand anywhere, so a text of blanks alone is an empty one: no town, and no fault.
            if (nextSign() != NONE) {
                terms.there = true;
                readInterest();
                readOthers();
            }
            length = 0;
        }

        private void readInterest() {
            if (nextSign() != 'i') {
                blame(1, at);
                return;
            }
            at++;
            terms.interest = readNumber(0, 30);
            terms.mildness = readNumber(0, 100);
            readSign(';');
        }

        private void readOthers() {
            for (int clause = 0; clause < MOST_LETTERS && faultKind == 0; clause++) {
                int word = nextSign();
                if (word == NONE) {
                    return;
                }
                readClause(word);
            }
        }

        private void readClause(int word) {
            if (word == 'c') {
                readCreditor();
            } else if (word == 'g' || word == 'm') {
                readPerson(word == 'g');
            } else {
                blame(word == 'i' ? 3 : 1, at);
            }
        }

        private void readCreditor() {
            int c = terms.creditors;
            if (c >= MOST_CREDITORS || terms.persons > 0) {
                blame(3, at);
                return;
            }
            at++;
            state.purse[c] = readNumber(0, MOST_TOLD);
            terms.low[c] = readNumber(1, MOST_TOLD);
            terms.high[c] = readNumber(1, MOST_TOLD);
            if (terms.high[c] < terms.low[c]) {
                blame(4, numberAt);
            }
            terms.great[c] = readNumber(1, 9);
            readSign(';');
            terms.creditors++;
        }

        private void readPerson(boolean girl) {
            int p = terms.persons;
            if (p >= MOST_PERSONS || terms.creditors == 0) {
                blame(3, at);
                return;
            }
            at++;
            for (int c = 0; c < terms.creditors; c++) {
                if (c > 0) {
                    readSign(',');
                }
                state.setOwed(p, c, readNumber(0, MOST_TOLD));
            }
            readSign(';');
            if (girl) {
                terms.girls |= 1 << p;
            }
            terms.persons++;
        }

        /** The sign that stands next behind blanks, NONE at the end. */
        private int nextSign() {
            while (at < length && letters[at] == ' ') {
                at++;
            }
            return at < length ? letters[at] : NONE;
        }

        private void readSign(int due) {
            if (nextSign() == due) {
                at++;
            } else {
                blame(1, at);
            }
        }

        private int readNumber(int least, int most) {
            int sign = nextSign();
            numberAt = at;
            if (!isFigure(sign)) {
                blame(1, at);
                return 0;
            }
            int value = 0;
            while (at < length && isFigure(letters[at])) {
                // Beyond three figures it is a fault anyway, and must not overflow.
                if (at - numberAt < MOST_FIGURES) {
                    value = value * 10 + letters[at] - '0';
                }
                at++;
            }
            if (at - numberAt > MOST_FIGURES || value < least || value > most) {
                blame(2, numberAt);
            }
            return value;
        }

        private static boolean isFigure(int sign) {
            return sign >= '0' && sign <= '9';
        }

        /** The text is read from left to right, so the first fault that is found is the first there is. */
        private void blame(int kind, int place) {
            if (faultKind == 0) {
                faultKind = kind;
                faultAt = place;
            }
        }
    }

    /** The states ahead of the latest deeds, in a ring: of more than it holds the oldest goes. */
    private static final class History {
        private final State[] ring = new State[MOST_UNDONE];
        private int oldest;
        int count;

        History(Terms terms) {
            for (int i = 0; i < MOST_UNDONE; i++) {
                ring[i] = new State(terms);
            }
        }

        void forget() {
            count = 0;
        }

        void note(State state) {
            ring[(oldest + count) % MOST_UNDONE].take(state);
            if (count < MOST_UNDONE) {
                count++;
            } else {
                oldest = (oldest + 1) % MOST_UNDONE;
            }
        }

        void restore(State state, int n) {
            if (n < 1 || n > count) {
                return;
            }
            count -= n;
            state.take(ring[(oldest + count) % MOST_UNDONE]);
        }
    }

    private static final class Image {
        final State state;
        int luck;
        boolean kept;

        Image(Terms terms) {
            state = new State(terms);
        }
    }

    private static final class Matcher {
        final int[] manOf = new int[MOST_PERSONS];

        int pairAll(State state) {
            for (int p = 0; p < MOST_PERSONS; p++) {
                manOf[p] = NONE;
            }
            int taken = state.wedSet();
            for (int pairs = 0; pairs < MOST_PERSONS; pairs++) {
                int pair = bestPair(state, taken);
                if (pair == NONE) {
                    return pairs;
                }
                int girl = pair / MOST_PERSONS;
                int man = pair % MOST_PERSONS;
                manOf[girl] = man;
                taken |= 1 << girl | 1 << man;
            }
            return MOST_PERSONS;
        }

        private static int bestPair(State state, int taken) {
            int best = NONE;
            int bestStanding = UNKNOWN;
            for (int girl = 0; girl < state.terms.persons; girl++) {
                for (int man = 0; man < state.terms.persons; man++) {
                    boolean free = (taken >> girl & 1) == 0 && (taken >> man & 1) == 0;
                    if (!free || !state.terms.isGirl(girl) || !state.terms.isMan(man)) {
                        continue;
                    }
                    int standing = state.standingJoined(girl, man);
                    boolean wished = standing > state.standingOf(girl) && standing > state.standingOf(man);
                    if (wished && standing > bestStanding) {
                        best = girl * MOST_PERSONS + man;
                        bestStanding = standing;
                    }
                }
            }
            return best;
        }
    }

    private static final class Planner {
        /** By what is owed behind a quarter: the fewest coins for the quarters that are left. */
        private final int[] cost = new int[MOST_TOLD + 1];
        int together;
        int first;

        /** False, if there is no plan. */
        boolean work(Terms terms, int c, int owed, int n) {
            for (int sum = 0; sum <= MOST_TOLD; sum++) {
                cost[sum] = 0;
            }
            for (int left = 1; left < n; left++) {
                addQuarter(terms, c);
            }
            together = BEYOND_ALL;
            int top = Math.min(owed, terms.high[c]);
            for (int rest = 0; rest <= top; rest++) {
                int coins = costFrom(terms, c, rest) + owed - rest;
                // A greater rest pays less at first, so of like ones the later is due.
                if (coins <= together && coins < BEYOND_ALL) {
                    together = coins;
                    first = owed - rest;
                }
            }
            return together < BEYOND_ALL;
        }

        /** Upwards in one row: who owes grows, so what is read has not been written anew yet. */
        private void addQuarter(Terms terms, int c) {
            int least = BEYOND_ALL;
            for (int sum = 0; sum <= MOST_TOLD && sum <= terms.high[c]; sum++) {
                int coins = costFrom(terms, c, sum);
                if (coins < BEYOND_ALL) {
                    least = Math.min(least, coins - sum);
                }
                cost[sum] = least == BEYOND_ALL ? BEYOND_ALL : least + sum;
            }
        }

        private int costFrom(Terms terms, int c, int rest) {
            int behind = terms.grown(rest);
            boolean inRow = behind >= 0 && behind <= MOST_TOLD;
            return inRow && terms.within(c, behind) ? cost[behind] : BEYOND_ALL;
        }
    }

    private static final class Cards {
        private final int[] person = new int[MOST_CARDS];
        private final int[] creditor = new int[MOST_CARDS];
        private final int[] quarters = new int[MOST_CARDS];
        private final boolean[] civil = new boolean[MOST_CARDS];
        int count;
        /** The sums that fit all cards, in order; fitting tells how many. */
        private final int[] sums = new int[SUMS];
        int fitting;

        boolean add(int p, int c, int q, boolean wasCivil) {
            if (count >= MOST_CARDS) {
                return false;
            }
            person[count] = p;
            creditor[count] = c;
            quarters[count] = q;
            civil[count] = wasCivil;
            count++;
            return true;
        }

        void sift(Terms terms, int p, int c) {
            fitting = 0;
            for (int sum = 0; sum < SUMS; sum++) {
                if (fits(terms, p, c, sum)) {
                    sums[fitting] = sum;
                    fitting++;
                }
            }
        }

        private boolean fits(Terms terms, int p, int c, int sum) {
            for (int i = 0; i < count; i++) {
                boolean theirs = person[i] == p && creditor[i] == c;
                if (theirs && terms.within(c, behind(terms, sum, quarters[i])) != civil[i]) {
                    return false;
                }
            }
            return true;
        }

        private static int behind(Terms terms, int sum, int q) {
            int grown = sum;
            for (int i = 0; i < q; i++) {
                grown = terms.grown(grown);
            }
            return grown;
        }

        int leastSum() {
            return fitting > 0 ? sums[0] : NONE;
        }

        int mostSum() {
            return fitting > 0 ? sums[fitting - 1] : NONE;
        }

        /** Lets the sifted sums grow where they stand: they are sifted anew for each call. */
        int bestLook(Terms terms, int c) {
            int best = NONE;
            int bestPart = fitting;
            for (int q = 0; q <= LAST_LOOK; q++) {
                int civils = 0;
                for (int i = 0; i < fitting; i++) {
                    if (terms.within(c, sums[i])) {
                        civils++;
                    }
                    sums[i] = terms.grown(sums[i]);
                }
                int part = Math.max(civils, fitting - civils);
                if (part < bestPart) {
                    best = q;
                    bestPart = part;
                }
            }
            return best;
        }
    }

    private static final class Book {
        private final int[] person = new int[MOST_ENTRIES];
        private final int[] standing = new int[MOST_ENTRIES];
        int count;

        boolean add(int p, int s) {
            if (count >= MOST_ENTRIES) {
                return false;
            }
            person[count] = p;
            standing[count] = s;
            count++;
            return true;
        }

        int firstWrong(State state) {
            for (int i = 0; i < count; i++) {
                if (state.standingOf(person[i]) != standing[i]) {
                    return i;
                }
            }
            return NONE;
        }
    }
}
