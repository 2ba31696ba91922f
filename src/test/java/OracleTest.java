import java.util.ArrayList;
import java.util.HashMap;
import java.util.List;
import java.util.Map;
import java.util.Random;
import java.util.TreeMap;

/** Long runs of calls by a fixed seed, each answer against a slow and plain model of the document. */
public final class OracleTest {
    private static final int RUNS = 900;
    /** Of 512 that the document promises anything about, 54 are left to look at all in the end. */
    private static final int CALLS = 458;

    public static void main(String[] args) {
        Random random = new Random(20261118);
        for (int run = 0; run < RUNS && !Due.anyWrong(); run++) {
            oneRun(run, random);
        }
        for (int text = 0; text < 60000 && !Due.anyWrong(); text++) {
            oneText(random);
        }
        Due.end();
    }

    private static void oneText(Random random) {
        String text = spoiled(random, goodText(random));
        if (text.length() > 240) {
            return;
        }
        DebtDowry x = new DebtDowry();
        Plain y = new Plain();
        for (int i = 0; i < text.length(); i++) {
            x.feed(text.charAt(i));
            y.feed(text.charAt(i));
        }
        Due.is("town of '" + text + "'", x.town(), y.town());
        Due.is("fault of '" + text + "'", x.fault(), y.faultAt);
        Due.is("owed by '" + text + "'", x.told(10), y.told(10));
    }

    private static String number(Random random, int low, int high) {
        String digits = Integer.toString(low + random.nextInt(high - low + 1));
        return random.nextInt(20) == 0 && digits.length() < 3 ? "0" + digits : digits;
    }

    private static String goodText(Random random) {
        StringBuilder text = new StringBuilder();
        int[] interests = {0, 1, 3, 5, 10, 20, 30};
        int scale = new int[] {8, 30, 100, 999}[random.nextInt(4)];
        text.append('i').append(interests[random.nextInt(7)]).append(' ').append(number(random, 0, 100)).append(';');
        int creditors = random.nextInt(8) == 0 ? 0 : 1 + random.nextInt(4);
        for (int c = 0; c < creditors; c++) {
            int low = 1 + random.nextInt(scale);
            int high = low + random.nextInt(1000 - low);
            high = random.nextBoolean() ? Math.min(high, low + scale / 2) : high;
            text.append('c').append(number(random, 0, random.nextInt(3) == 0 ? 999 : scale)).append(' ');
            text.append(low).append(' ').append(high).append(' ').append(number(random, 1, 9)).append(';');
        }
        int persons = creditors == 0 ? 0 : random.nextInt(9);
        for (int p = 0; p < persons; p++) {
            text.append(random.nextBoolean() ? 'g' : 'm');
            for (int c = 0; c < creditors; c++) {
                int most = random.nextInt(4) == 0 ? 0 : random.nextInt(6) == 0 ? 999 : scale;
                text.append(c > 0 ? "," : "").append(number(random, 0, most));
            }
            text.append(';');
        }
        return text.toString();
    }

    private static String spoiled(Random random, String good) {
        StringBuilder text = new StringBuilder(random.nextInt(30) == 0 ? " ".repeat(random.nextInt(5)) : good);
        String signs = "icgm0123456789,;  0019x";
        int spoils = random.nextInt(4);
        for (int i = 0; i < spoils && text.length() > 0; i++) {
            int at = random.nextInt(text.length());
            char sign = signs.charAt(random.nextInt(signs.length()));
            switch (random.nextInt(5)) {
                case 0: text.setCharAt(at, sign); break;
                case 1: text.deleteCharAt(at); break;
                case 2: text.insert(at, sign); break;
                case 3: text.insert(at, ' '); break;
                default: text.setLength(random.nextInt(4) == 0 ? at : text.length()); break;
            }
        }
        return text.toString();
    }

    private static void oneRun(int run, Random random) {
        DebtDowry x = new DebtDowry();
        Plain y = new Plain();
        int left = CALLS;
        boolean first = true;
        while (left > 1) {
            if (first || random.nextInt(150) == 0) {
                String text = random.nextInt(12) == 0 ? spoiled(random, goodText(random)) : goodText(random);
                for (int i = 0; i < text.length() && left > 2; i++, left--) {
                    Due.is(run + ": feed", x.feed(text.charAt(i)), y.feed(text.charAt(i)));
                }
                Due.is(run + ": town of " + text, x.town(), y.town());
                left--;
                first = random.nextInt(20) == 0;
            }
            left--;
            oneCall(run, random, x, y);
        }
        everything(run, x, y);
    }

    private static void everything(int run, DebtDowry x, Plain y) {
        for (int what = 0; what <= 13; what++) {
            Due.is(run + ": told(" + what + ")", x.told(what), y.told(what));
        }
        for (int p = 0; p < y.told(4); p++) {
            for (int what = 0; what <= 4; what++) {
                Due.is(run + ": person(" + p + ", " + what + ")", x.person(p, what), y.person(p, what));
            }
        }
    }

    private static int some(Random random, int low, int high) {
        int kind = random.nextInt(60);
        if (kind == 0) {
            return low - 1;
        }
        if (kind == 1) {
            return high + 1;
        }
        if (kind == 2) {
            return random.nextInt();
        }
        if (kind < 6) {
            return kind % 2 == 0 ? low : high;
        }
        return low + random.nextInt(high - low + 1);
    }

    private static void oneCall(int run, Random random, DebtDowry x, Plain y) {
        int p = some(random, 0, Math.max(0, y.told(4) - 1));
        int c = some(random, 0, Math.max(0, y.told(3) - 1));
        int girl = y.someOf(random, true, p);
        int man = y.someOf(random, false, p);
        int n = random.nextInt(4) > 0 ? some(random, 1, 4) : some(random, 1, 20);
        int coins = random.nextInt(3) > 0 ? some(random, 1, 40) : some(random, 1, 999);
        int what = some(random, 0, 2);
        int kind = random.nextInt(34);
        String call = run + ": " + kind + " with p " + p + ", c " + c + ", girl " + girl + ", man " + man + ", n " + n
            + ", coins " + coins + ", what " + what;
        switch (kind) {
            case 0: Due.is(call, x.fault(), y.faultAt); break;
            case 1: int t = some(random, 0, 13); Due.is(call, x.told(t), y.told(t)); break;
            case 2: int k = some(random, 0, 5); Due.is(call, x.creditor(c, k), y.creditor(c, k)); break;
            case 3: int j = some(random, 0, 4); Due.is(call, x.person(p, j), y.person(p, j)); break;
            case 4: Due.is(call, x.owes(p, c), y.owes(p, c)); break;
            case 5: Due.is(call, x.temper(p, c), y.temper(p, c)); break;
            case 6: case 32: Due.is(call, x.borrow(p, c, coins), y.borrow(p, c, coins)); break;
            case 7: case 33:
                int sum = random.nextBoolean() ? coins : Math.max(1, y.owes(p, c) / (1 + random.nextInt(9)));
                Due.is(call + " " + sum, x.pay(p, c, sum), y.pay(p, c, sum));
                break;
            case 8: Due.is(call, x.quarter(n), y.quarter(n)); break;
            case 9: Due.is(call, x.wed(girl, man), y.wed(girl, man)); break;
            case 10: Due.is(call, x.divorce(girl), y.divorce(girl)); break;
            case 11: Due.is(call, x.drift(n), y.drift(n)); break;
            case 12: case 13: int u = some(random, 1, 30); Due.is(call + " " + u, x.undo(u), y.undo(u)); break;
            case 14: Due.is(call, x.joined(girl, man), y.joined(girl, man)); break;
            case 15: case 16:
                int s = some(random, 1, random.nextInt(4) == 0 ? 36 : 12);
                int w = some(random, 0, 1);
                Due.is(call + " " + s, x.least(p, s, w), y.least(p, s, w));
                break;
            case 17: case 18:
                int q = some(random, 1, 8);
                int v = some(random, 0, 1);
                Due.is(call + " plan " + q + " " + v, x.plan(p, c, q, v), y.plan(p, c, q, v));
                break;
            default: otherCall(kind, call, random, x, y, p, c, girl);
        }
    }

    private static void otherCall(int kind, String call, Random random, DebtDowry x, Plain y, int p, int c, int girl) {
        int what = some(random, 0, 2);
        int q = some(random, 0, 12);
        int n = some(random, 1, 20);
        boolean civil = random.nextBoolean();
        switch (kind) {
            case 19: int g = civil ? girl : -1; Due.is(call, x.matches(g), y.matches(g)); break;
            case 20: Due.is(call, x.failing(), y.failing()); break;
            case 21: Due.is(call, x.run(n), y.run(n)); break;
            case 22: Due.is(call, x.credit(p, c), y.credit(p, c)); break;
            case 23:
                int k = some(random, 0, 60);
                int odds = some(random, 0, 100);
                Due.is(call, x.rumours(k, odds), y.rumours(k, odds));
                break;
            case 24: Due.is(call, x.card(p, c, q, civil), y.card(p, c, q, civil)); break;
            case 25: Due.is(call, x.had(p, c, what), y.had(p, c, what)); break;
            case 26: Due.is(call, x.lookAt(p, c), y.lookAt(p, c)); break;
            case 27:
                int s = random.nextInt(3) > 0 ? y.person(p, 3) : some(random, -9, 99);
                Due.is(call + " " + s, x.write(p, s), y.write(p, s));
                break;
            case 28: Due.is(call, x.judge(), y.judge()); break;
            case 29: if (random.nextInt(6) == 0) { Due.is(call, x.tear(), y.tear()); } break;
            case 30:
                int v = civil ? random.nextInt() : some(random, 0, 2147483646);
                Due.is(call, x.seed(v), y.seed(v));
                break;
            default:
                int i = some(random, 0, 1);
                if (random.nextInt(3) == 0) {
                    Due.is(call, x.keep(i), y.keep(i));
                } else if (random.nextInt(3) == 0) {
                    Due.is(call, x.goBack(i), y.goBack(i));
                }
        }
    }

    /** A word of the text and where it stands. */
    private record Word(char kind, String signs, int at) {
    }

    private static final class Who {
        boolean girl;
        int mate = -1;
        TreeMap<Integer, Integer> owed = new TreeMap<>();
        List<Integer> insulted = new ArrayList<>();

        Who copy() {
            Who w = new Who();
            w.girl = girl;
            w.mate = mate;
            w.owed.putAll(owed);
            w.insulted.addAll(insulted);
            return w;
        }
    }

    private static final class Bank {
        int purse;
        int a;
        int b;
        int g;
        boolean failed;

        Bank copy() {
            Bank k = new Bank();
            k.purse = purse;
            k.a = a;
            k.b = b;
            k.g = g;
            k.failed = failed;
            return k;
        }
    }

    private static final class World {
        boolean there;
        int interest;
        int m;
        int quarters;
        List<Bank> banks = new ArrayList<>();
        List<Who> folk = new ArrayList<>();

        World copy() {
            World w = new World();
            w.there = there;
            w.interest = interest;
            w.m = m;
            w.quarters = quarters;
            banks.forEach(k -> w.banks.add(k.copy()));
            folk.forEach(f -> w.folk.add(f.copy()));
            return w;
        }

        int temper(int p, int c) {
            Bank k = banks.get(c);
            int owed = folk.get(p).owed.get(c);
            if (k.failed) {
                return 3;
            }
            if (folk.get(p).insulted.contains(c)) {
                return 0;
            }
            return owed < k.a ? 0 : owed > k.b ? 2 : 1;
        }

        int standing(int p) {
            int all = 0;
            for (int c = 0; c < banks.size(); c++) {
                if (temper(p, c) == 1) {
                    all += banks.get(c).g;
                }
                if (temper(p, c) == 2) {
                    all--;
                }
            }
            return all;
        }

        int total(int p) {
            return folk.get(p).owed.values().stream().mapToInt(Integer::intValue).sum();
        }

        boolean wedMan(int p) {
            return !folk.get(p).girl && folk.get(p).mate >= 0;
        }

        boolean borrow(int p, int c, int coins) {
            Bank k = banks.get(c);
            if (wedMan(p) || k.failed || k.purse < coins) {
                return false;
            }
            k.purse -= coins;
            folk.get(p).owed.merge(c, coins, (o, n) -> o + n > 9999 ? 9999 : o + n);
            return true;
        }

        int grow(int sum) {
            long more = (long) sum * interest / 100;
            return sum + more > 9999 ? 9999 : (int) (sum + more);
        }

        List<Integer> quarter() {
            for (Who f : folk) {
                f.owed.replaceAll((c, sum) -> grow(sum));
                f.insulted.clear();
            }
            List<Integer> fall = new ArrayList<>();
            for (int c = 0; c < banks.size(); c++) {
                int sour = 0;
                for (int p = 0; p < folk.size(); p++) {
                    sour += temper(p, c) == 2 ? folk.get(p).owed.get(c) : 0;
                }
                if (!banks.get(c).failed && sour > banks.get(c).purse) {
                    fall.add(c);
                }
            }
            for (int c : fall) {
                banks.get(c).failed = true;
                folk.forEach(f -> f.owed.put(c, 0));
            }
            quarters++;
            return fall;
        }

        void wed(int girl, int man) {
            Who she = folk.get(girl);
            Who he = folk.get(man);
            for (int c = 0; c < banks.size(); c++) {
                she.owed.put(c, Math.min(9999, she.owed.get(c) + he.owed.get(c)));
                he.owed.put(c, 0);
            }
            for (int c : he.insulted) {
                if (!she.insulted.contains(c)) {
                    she.insulted.add(c);
                }
            }
            he.insulted.clear();
            she.mate = man;
            he.mate = girl;
        }
    }

    private static final class Plain {
        private static final int UNKNOWN = -1000000001;
        private static final int OUTSIDE = -1000000002;
        private static final int NOT = -1000000003;
        private static final int FULL = -1000000004;

        private final StringBuilder text = new StringBuilder();
        private World world = new World();
        private List<World> past = new ArrayList<>();
        private final World[] images = new World[2];
        private final long[] imageSeeds = new long[2];
        private List<int[]> cards = new ArrayList<>();
        private List<int[]> book = new ArrayList<>();
        private long seed = 0;
        int faultAt = -1;

        int someOf(Random random, boolean girls, int p) {
            List<Integer> those = new ArrayList<>();
            for (int i = 0; i < world.folk.size(); i++) {
                if (world.folk.get(i).girl == girls) {
                    those.add(i);
                }
            }
            return those.isEmpty() || random.nextInt(12) == 0 ? p : those.get(random.nextInt(those.size()));
        }

        int feed(int letter) {
            if (letter < 0 || letter > 255) {
                return OUTSIDE;
            }
            if (text.length() == 240) {
                return FULL;
            }
            text.append((char) letter);
            return text.length();
        }

        private List<Word> words() {
            List<Word> words = new ArrayList<>();
            int at = 0;
            while (at < text.length()) {
                int end = at;
                while (end < text.length() && Character.isDigit(text.charAt(end))) {
                    end++;
                }
                if (end > at) {
                    words.add(new Word('#', text.substring(at, end), at));
                } else {
                    end = at + 1;
                    if (text.charAt(at) != ' ') {
                        words.add(new Word(text.charAt(at), "", at));
                    }
                }
                at = end;
            }
            words.add(new Word('$', "", text.length()));
            return words;
        }

        /** Expects words by a pattern that grows as clauses come; answers the fault's kind, or 0. */
        private int build(World w, List<Word> words) {
            String due = "";
            String clause = "";
            List<Integer> values = new ArrayList<>();
            for (Word word : words) {
                faultAt = word.at;
                if (due.isEmpty()) {
                    if (!clause.isEmpty()) {
                        finish(w, clause, values);
                    }
                    if (word.kind == '$') {
                        faultAt = -1;
                        return 0;
                    }
                    if (!w.there && word.kind != 'i' || "icgm".indexOf(word.kind) < 0) {
                        return 1;
                    }
                    int k = w.banks.size();
                    boolean tooMany = word.kind == 'i' && w.there
                        || word.kind == 'c' && (k == 4 || !w.folk.isEmpty())
                        || "gm".indexOf(word.kind) >= 0 && (k == 0 || w.folk.size() == 8);
                    if (tooMany) {
                        return 3;
                    }
                    clause = "" + word.kind;
                    values = new ArrayList<>();
                    w.there = true;
                    due = word.kind == 'i' ? "##;" : word.kind == 'c' ? "####;" : "#" + ",#".repeat(k - 1) + ";";
                    continue;
                }
                if (word.kind != due.charAt(0)) {
                    return 1;
                }
                due = due.substring(1);
                if (word.kind == '#') {
                    int at = clause.charAt(0) == 'i' ? values.size() : clause.charAt(0) == 'c' ? 2 + values.size() : 6;
                    int low = new int[] {0, 0, 0, 1, 1, 1, 0}[at];
                    int high = new int[] {30, 100, 999, 999, 999, 9, 999}[at];
                    if (word.signs.length() > 3) {
                        return 2;
                    }
                    int value = Integer.parseInt(word.signs);
                    if (value < low || value > high) {
                        return 2;
                    }
                    if (at == 4 && value < values.get(1)) {
                        return 4;
                    }
                    values.add(value);
                }
            }
            throw new IllegalStateException("the end was not seen");
        }

        private void finish(World w, String clause, List<Integer> values) {
            if (clause.equals("i")) {
                w.interest = values.get(0);
                w.m = values.get(1);
            } else if (clause.equals("c")) {
                Bank k = new Bank();
                k.purse = values.get(0);
                k.a = values.get(1);
                k.b = values.get(2);
                k.g = values.get(3);
                w.banks.add(k);
            } else {
                Who f = new Who();
                f.girl = clause.equals("g");
                for (int c = 0; c < values.size(); c++) {
                    f.owed.put(c, values.get(c));
                }
                w.folk.add(f);
            }
        }

        int town() {
            World w = new World();
            int kind = build(w, words());
            text.setLength(0);
            if (kind > 0) {
                return -10 - kind;
            }
            world = w;
            past.clear();
            cards.clear();
            book.clear();
            images[0] = null;
            images[1] = null;
            return w.folk.size();
        }

        private boolean bad(int p) {
            return p < 0 || p >= world.folk.size();
        }

        private boolean bad(int p, int c) {
            return bad(p) || c < 0 || c >= world.banks.size();
        }

        private int people(java.util.function.IntPredicate which) {
            int set = 0;
            for (int p = 0; p < world.folk.size(); p++) {
                set += which.test(p) ? 1 << p : 0;
            }
            return set;
        }

        private int fallen(World w) {
            int set = 0;
            for (int c = 0; c < w.banks.size(); c++) {
                set += w.banks.get(c).failed ? 1 << c : 0;
            }
            return set;
        }

        private int all() {
            int sum = 0;
            for (int p = 0; p < world.folk.size(); p++) {
                sum += world.total(p);
            }
            return sum;
        }

        int told(int what) {
            switch (what) {
                case 0: return world.there ? 1 : 0;
                case 1: return world.interest;
                case 2: return world.m;
                case 3: return world.banks.size();
                case 4: return world.folk.size();
                case 5: return text.length();
                case 6: return world.quarters;
                case 7: return people(p -> world.folk.get(p).girl);
                case 8: return people(p -> world.folk.get(p).mate >= 0);
                case 9: return fallen(world);
                case 10: return all();
                case 11: return cards.size();
                case 12: return book.size();
                case 13: return past.size();
                default: return OUTSIDE;
            }
        }

        int creditor(int c, int what) {
            if (c < 0 || c >= world.banks.size()) {
                return UNKNOWN;
            }
            if (what < 0 || what > 5) {
                return OUTSIDE;
            }
            Bank k = world.banks.get(c);
            int civil = people(p -> world.temper(p, c) == 1);
            int sour = people(p -> world.temper(p, c) == 2);
            return new int[] {k.purse, k.a, k.b, k.g, civil, sour}[what];
        }

        int person(int p, int what) {
            if (bad(p)) {
                return UNKNOWN;
            }
            if (what < 0 || what > 4) {
                return OUTSIDE;
            }
            Who f = world.folk.get(p);
            int insults = f.insulted.stream().mapToInt(c -> 1 << c).sum();
            return new int[] {f.girl ? 1 : 0, f.mate, world.total(p), world.standing(p), insults}[what];
        }

        int owes(int p, int c) {
            return bad(p, c) ? UNKNOWN : world.folk.get(p).owed.get(c);
        }

        int temper(int p, int c) {
            return bad(p, c) ? UNKNOWN : world.temper(p, c);
        }

        private void deed() {
            past.add(world.copy());
            if (past.size() > 30) {
                past.remove(0);
            }
        }

        int borrow(int p, int c, int coins) {
            if (bad(p, c)) {
                return UNKNOWN;
            }
            if (coins < 1 || coins > 999) {
                return OUTSIDE;
            }
            if (!world.copy().borrow(p, c, coins)) {
                return NOT;
            }
            deed();
            world.borrow(p, c, coins);
            return owes(p, c);
        }

        int pay(int p, int c, int coins) {
            if (bad(p, c)) {
                return UNKNOWN;
            }
            if (coins < 1 || coins > 9999) {
                return OUTSIDE;
            }
            int owed = owes(p, c);
            if (owed < coins) {
                return NOT;
            }
            deed();
            Who f = world.folk.get(p);
            if (coins > owed * world.m / 100.0 + 1e-9 && !f.insulted.contains(c)) {
                f.insulted.add(c);
            }
            f.owed.put(c, owed - coins);
            Bank k = world.banks.get(c);
            k.purse = k.purse + coins > 9999 ? 9999 : k.purse + coins;
            return owed - coins;
        }

        private int refuse(int n) {
            if (n < 1 || n > 20) {
                return OUTSIDE;
            }
            return !world.there ? NOT : world.quarters > 9000 ? FULL : 0;
        }

        int quarter(int n) {
            if (refuse(n) != 0) {
                return refuse(n);
            }
            int many = 0;
            for (int i = 0; i < n; i++) {
                deed();
                many += world.quarter().size();
            }
            return many;
        }

        private int refusePair(int girl, int man) {
            if (bad(girl) || bad(man) || !world.folk.get(girl).girl || world.folk.get(man).girl) {
                return UNKNOWN;
            }
            return world.folk.get(girl).mate >= 0 || world.folk.get(man).mate >= 0 ? NOT : 0;
        }

        int wed(int girl, int man) {
            if (refusePair(girl, man) != 0) {
                return refusePair(girl, man);
            }
            deed();
            world.wed(girl, man);
            return world.standing(girl) + 10;
        }

        int divorce(int girl) {
            if (bad(girl) || !world.folk.get(girl).girl) {
                return UNKNOWN;
            }
            Who she = world.folk.get(girl);
            if (she.mate < 0) {
                return NOT;
            }
            deed();
            int man = she.mate;
            Who he = world.folk.get(man);
            for (int c = 0; c < world.banks.size(); c++) {
                int sum = she.owed.get(c);
                he.owed.put(c, sum / 2);
                she.owed.put(c, (sum + 1) / 2);
            }
            he.insulted = new ArrayList<>(she.insulted);
            he.mate = -1;
            she.mate = -1;
            return world.total(man);
        }

        private int draw(int n) {
            seed = (seed * 1103515245L + 12345L) % (1L << 31);
            return (int) (seed / 65536 % n);
        }

        int drift(int n) {
            if (refuse(n) != 0) {
                return refuse(n);
            }
            for (int i = 0; i < n; i++) {
                deed();
                if (!world.folk.isEmpty()) {
                    int p = draw(world.folk.size());
                    int c = draw(world.banks.size());
                    world.borrow(p, c, draw(100));
                }
                world.quarter();
            }
            return all();
        }

        int undo(int n) {
            if (n < 1 || n > 30) {
                return OUTSIDE;
            }
            if (n > past.size()) {
                return NOT;
            }
            for (int i = 0; i < n; i++) {
                world = past.remove(past.size() - 1);
            }
            return world.quarters;
        }

        private int joinedStanding(int girl, int man) {
            World w = world.copy();
            w.wed(girl, man);
            return w.standing(girl);
        }

        int joined(int girl, int man) {
            return refusePair(girl, man) != 0 ? refusePair(girl, man) : joinedStanding(girl, man) + 10;
        }

        int least(int p, int s, int what) {
            if (bad(p)) {
                return UNKNOWN;
            }
            if (s < 1 || s > 36 || what < 0 || what > 1) {
                return OUTSIDE;
            }
            if (world.wedMan(p)) {
                return NOT;
            }
            int best = -1;
            int coins = Integer.MAX_VALUE;
            for (int set = 0; set < 1 << world.banks.size(); set++) {
                World w = world.copy();
                int sum = 0;
                boolean may = true;
                for (int c = 0; c < w.banks.size() && may; c++) {
                    if ((set & 1 << c) != 0) {
                        int more = w.banks.get(c).a - w.folk.get(p).owed.get(c);
                        may = more > 0 && w.temper(p, c) == 0 && !w.folk.get(p).insulted.contains(c)
                            && w.borrow(p, c, more);
                        sum += more;
                    }
                }
                if (may && w.standing(p) >= s && sum < coins) {
                    best = set;
                    coins = sum;
                }
            }
            return best < 0 ? -1 : what == 0 ? best : coins;
        }

        private int planFrom(int c, int owed, int n, Map<Integer, Integer> known, boolean first) {
            if (n == 0) {
                return first ? -1 : 0;
            }
            int key = owed * 16 + n;
            if (!first && known.containsKey(key)) {
                return known.get(key);
            }
            int best = -1;
            int bestFirst = -1;
            int from = Math.max(0, owed - world.banks.get(c).b);
            for (int coins = from; coins <= owed; coins++) {
                int then = world.grow(owed - coins);
                if (then < world.banks.get(c).a) {
                    break;
                }
                if (then > world.banks.get(c).b) {
                    continue;
                }
                int rest = planFrom(c, then, n - 1, known, false);
                if (rest >= 0 && (best < 0 || coins + rest < best)) {
                    best = coins + rest;
                    bestFirst = coins;
                }
            }
            if (!first) {
                known.put(key, best);
            }
            return first ? bestFirst : best;
        }

        int plan(int p, int c, int n, int what) {
            if (bad(p, c)) {
                return UNKNOWN;
            }
            if (n < 1 || n > 8 || what < 0 || what > 1) {
                return OUTSIDE;
            }
            return world.banks.get(c).failed ? -1 : planFrom(c, owes(p, c), n, new HashMap<>(), what == 1);
        }

        int matches(int girl) {
            if (girl != -1 && (bad(girl) || !world.folk.get(girl).girl)) {
                return UNKNOWN;
            }
            Map<Integer, Integer> pairs = new TreeMap<>();
            boolean more = true;
            while (more) {
                int[] best = null;
                for (int g = 0; g < world.folk.size(); g++) {
                    for (int m = 0; m < world.folk.size(); m++) {
                        if (refusePair(g, m) != 0 || pairs.containsKey(g) || pairs.containsValue(m)) {
                            continue;
                        }
                        int j = joinedStanding(g, m);
                        boolean above = j > world.standing(g) && j > world.standing(m);
                        if (above && (best == null || j > best[2])) {
                            best = new int[] {g, m, j};
                        }
                    }
                }
                more = best != null;
                if (more) {
                    pairs.put(best[0], best[1]);
                }
            }
            return girl == -1 ? pairs.size() : pairs.getOrDefault(girl, -1);
        }

        int failing() {
            return world.copy().quarter().stream().mapToInt(c -> 1 << c).sum();
        }

        int run(int n) {
            if (n < 1 || n > 20) {
                return OUTSIDE;
            }
            World w = world.copy();
            for (int i = 0; i < n; i++) {
                w.quarter();
            }
            return fallen(w);
        }

        int credit(int p, int c) {
            if (bad(p, c)) {
                return UNKNOWN;
            }
            for (int coins = 999; coins >= 0; coins--) {
                if (world.banks.get(c).purse < coins) {
                    continue;
                }
                World w = world.copy();
                if ((coins == 0 || w.borrow(p, c, coins)) && w.temper(p, c) == 1) {
                    return coins;
                }
            }
            return -1;
        }

        int rumours(int n, int q) {
            if (n < 0 || n > 60 || q < 0 || q > 100) {
                return OUTSIDE;
            }
            long odds = 1000000000L;
            for (int i = 0; i < n; i++) {
                odds = (odds * (100 - q) - odds * (100 - q) % 100) / 100;
            }
            return (int) odds;
        }

        int card(int p, int c, int q, boolean civil) {
            if (bad(p, c)) {
                return UNKNOWN;
            }
            if (q < 0 || q > 12) {
                return OUTSIDE;
            }
            if (cards.size() == 6) {
                return FULL;
            }
            cards.add(new int[] {p, c, q, civil ? 1 : 0});
            return cards.size();
        }

        private int civilBehind(int c, int sum, int q) {
            int grown = sum;
            for (int i = 0; i < q; i++) {
                grown = world.grow(grown);
            }
            return grown >= world.banks.get(c).a && grown <= world.banks.get(c).b ? 1 : 0;
        }

        private List<Integer> sums(int p, int c) {
            List<Integer> fit = new ArrayList<>();
            for (int sum = 0; sum <= 99; sum++) {
                boolean all = true;
                for (int[] card : cards) {
                    all &= card[0] != p || card[1] != c || civilBehind(c, sum, card[2]) == card[3];
                }
                if (all) {
                    fit.add(sum);
                }
            }
            return fit;
        }

        int had(int p, int c, int what) {
            if (bad(p, c)) {
                return UNKNOWN;
            }
            if (what < 0 || what > 2) {
                return OUTSIDE;
            }
            List<Integer> fit = sums(p, c);
            if (what == 0) {
                return fit.size();
            }
            return fit.isEmpty() ? -1 : fit.get(what == 1 ? 0 : fit.size() - 1);
        }

        int lookAt(int p, int c) {
            if (bad(p, c)) {
                return UNKNOWN;
            }
            List<Integer> fit = sums(p, c);
            int best = -1;
            int greatest = fit.size();
            for (int q = 0; q <= 12; q++) {
                int civil = 0;
                for (int sum : fit) {
                    civil += civilBehind(c, sum, q);
                }
                int part = Math.max(civil, fit.size() - civil);
                if (civil > 0 && civil < fit.size() && part < greatest) {
                    best = q;
                    greatest = part;
                }
            }
            return best;
        }

        int write(int p, int standing) {
            if (bad(p)) {
                return UNKNOWN;
            }
            if (standing < -9 || standing > 99) {
                return OUTSIDE;
            }
            if (book.size() == 20) {
                return FULL;
            }
            book.add(new int[] {p, standing});
            return book.size();
        }

        int judge() {
            for (int i = 0; i < book.size(); i++) {
                if (world.standing(book.get(i)[0]) != book.get(i)[1]) {
                    return i;
                }
            }
            return -1;
        }

        int tear() {
            int both = cards.size() + book.size();
            cards.clear();
            book.clear();
            return both;
        }

        int seed(int v) {
            if (v < 0) {
                return OUTSIDE;
            }
            int before = (int) seed;
            seed = v;
            return before;
        }

        int keep(int i) {
            if (i != 0 && i != 1) {
                return UNKNOWN;
            }
            images[i] = world.copy();
            imageSeeds[i] = seed;
            past.clear();
            return 1;
        }

        int goBack(int i) {
            if (i != 0 && i != 1) {
                return UNKNOWN;
            }
            if (images[i] == null) {
                return NOT;
            }
            world = images[i].copy();
            seed = imageSeeds[i];
            past.clear();
            return 1;
        }
    }
}
