import java.math.BigInteger;
import java.util.ArrayList;
import java.util.Arrays;
import java.util.Comparator;
import java.util.HashSet;
import java.util.List;
import java.util.Set;

/**
 * The document once more, as plainly as can be and with the whole library: what TableHouse answers
 * is compared with this. Where it could be done in two ways, it is done in the other one here.
 */
final class Oracle {
    static final int NONE = -1;
    static final int VOID = Integer.MIN_VALUE;
    private static final BigInteger LIMIT = BigInteger.valueOf(1000000000);

    /** A fraction; null is NONE. */
    record Frac(BigInteger n, BigInteger d) {
        static Frac of(BigInteger n, BigInteger d) {
            if (d.signum() == 0) {
                return null;
            }
            BigInteger g = n.gcd(d).multiply(BigInteger.valueOf(d.signum()));
            Frac f = new Frac(n.divide(g), d.divide(g));
            return f.n.abs().compareTo(LIMIT) > 0 || f.d.compareTo(LIMIT) > 0 ? null : f;
        }

        static Frac of(long n, long d) {
            return of(BigInteger.valueOf(n), BigInteger.valueOf(d));
        }

        int compare(Frac o) {
            return n.multiply(o.d).compareTo(o.n.multiply(d));
        }
    }

    interface Expr {
        Frac at(Frac x);
    }

    private static final class Fault extends RuntimeException {
        final int place;

        Fault(int place) {
            super(null, null, false, false);
            this.place = place;
        }
    }

    record Token(int place, String text) {
    }

    private static final Set<String> WORDS = Set.of("x", "root", "cut", "least", "most", "if", "then", "else");

    private static List<Token> tokens(String text) {
        List<Token> all = new ArrayList<>();
        java.util.regex.Matcher m = java.util.regex.Pattern.compile("[a-z]+|[0-9]+|[-+*/(),<>=]|[^ ]", java.util.regex.Pattern.DOTALL).matcher(text);
        while (m.find()) {
            all.add(new Token(m.start(), m.group()));
        }
        all.add(new Token(text.length(), ""));
        return all;
    }

    private static final class Grammar {
        final List<Token> tokens;
        int at = 0;

        Grammar(String text) {
            tokens = tokens(text);
        }

        Token peek() {
            return tokens.get(at);
        }

        boolean is(String what) {
            return peek().text.equals(what);
        }

        Token next() {
            return tokens.get(at++);
        }

        void must(String what) {
            if (!is(what)) {
                throw new Fault(peek().place);
            }
            at++;
        }

        Expr whole() {
            Expr e = e(0);
            must("");
            return e;
        }

        Expr e(int depth) {
            Expr left = t(depth);
            while (is("+") || is("-")) {
                Expr a = left;
                boolean plus = next().text.equals("+");
                Expr b = t(depth);
                left = x -> {
                    Frac p = a.at(x);
                    Frac q = b.at(x);
                    if (p == null || q == null) {
                        return null;
                    }
                    BigInteger u = p.n.multiply(q.d);
                    BigInteger v = q.n.multiply(p.d);
                    return Frac.of(plus ? u.add(v) : u.subtract(v), p.d.multiply(q.d));
                };
            }
            return left;
        }

        Expr t(int depth) {
            Expr left = f(depth);
            while (is("*") || is("/")) {
                Expr a = left;
                boolean times = next().text.equals("*");
                Expr b = f(depth);
                left = x -> {
                    Frac p = a.at(x);
                    Frac q = b.at(x);
                    if (p == null || q == null) {
                        return null;
                    }
                    return times ? Frac.of(p.n.multiply(q.n), p.d.multiply(q.d)) : Frac.of(p.n.multiply(q.d), p.d.multiply(q.n));
                };
            }
            return left;
        }

        Expr f(int depth) {
            Token token = peek();
            String text = token.text;
            if (text.matches("[0-9]+") && new BigInteger(text).compareTo(BigInteger.valueOf(999999)) <= 0) {
                at++;
                Frac number = Frac.of(new BigInteger(text), BigInteger.ONE);
                return x -> number;
            }
            if (text.equals("x")) {
                at++;
                return x -> x;
            }
            if (!Set.of("(", "-", "root", "cut", "least", "most", "if").contains(text) || depth == 10) {
                throw new Fault(token.place);
            }
            at++;
            return opened(text, depth + 1);
        }

        Expr opened(String text, int depth) {
            if (text.equals("(")) {
                Expr e = e(depth);
                must(")");
                return e;
            }
            if (text.equals("-") || text.equals("root") || text.equals("cut")) {
                Expr e = f(depth);
                return x -> one(text, e.at(x));
            }
            if (text.equals("if")) {
                return choice(depth);
            }
            must("(");
            Expr a = e(depth);
            must(",");
            Expr b = e(depth);
            must(")");
            return x -> {
                Frac p = a.at(x);
                Frac q = b.at(x);
                if (p == null || q == null) {
                    return null;
                }
                return (p.compare(q) < 0) == text.equals("least") ? p : q;
            };
        }

        Expr choice(int depth) {
            Expr a = e(depth);
            String c = peek().text;
            if (!Set.of("<", ">", "=").contains(c)) {
                throw new Fault(peek().place);
            }
            at++;
            Expr b = e(depth);
            must("then");
            Expr yes = e(depth);
            must("else");
            Expr no = e(depth);
            return x -> {
                Frac p = a.at(x);
                Frac q = b.at(x);
                if (p == null || q == null) {
                    return null;
                }
                int order = p.compare(q);
                return (c.equals("<") ? order < 0 : c.equals(">") ? order > 0 : order == 0) ? yes.at(x) : no.at(x);
            };
        }

        static Frac one(String text, Frac p) {
            if (p == null) {
                return null;
            }
            if (text.equals("-")) {
                return new Frac(p.n.negate(), p.d);
            }
            if (text.equals("cut")) {
                BigInteger[] qr = p.n.divideAndRemainder(p.d);
                return Frac.of(qr[1].signum() < 0 ? qr[0].subtract(BigInteger.ONE) : qr[0], BigInteger.ONE);
            }
            if (p.n.signum() < 0) {
                return null;
            }
            return Frac.of(p.n.multiply(BigInteger.valueOf(10000)).divide(p.d).sqrt(), BigInteger.valueOf(100));
        }
    }

    static final class Work {
        int hand;
        int way;
        int wrote;

        Work(int hand, int way, int wrote) {
            this.hand = hand;
            this.way = way;
            this.wrote = wrote;
        }
    }

    static final class Entry {
        Integer truth;
        List<Work> works = new ArrayList<>();
        Integer agreedOn;
        int worn;
        Integer rival;

        boolean isFalse() {
            return agreedOn != null && works.get(0).wrote != truth;
        }
    }

    static final class Tab {
        List<Entry> entries = new ArrayList<>();
        boolean set;
        int copies;
        int since;
    }

    record Habit(int hand, int way, int place, int from, int to) {
    }

    record Stick(int column, int wheel, int from, int until) {
    }

    record Err(int table, int entry, int is, int should, int day) {
    }

    private StringBuilder text = new StringBuilder();
    private final List<Expr> sheets = new ArrayList<>();
    private final List<Tab> tables = new ArrayList<>();
    private final List<Habit> habits = new ArrayList<>();
    private final List<Err> errata = new ArrayList<>();
    private final List<Stick> sticks = new ArrayList<>();
    private List<Integer> row = new ArrayList<>();
    private int hands;
    private int now;
    private int hard = 1000;
    private int[][] digits = new int[5][9];
    private int bell;
    private int turns;

    private Tab tab(int t) {
        return t >= 0 && t < tables.size() ? tables.get(t) : null;
    }

    private Entry entry(int t, int e) {
        Tab tab = tab(t);
        return tab != null && e >= 0 && e < tab.entries.size() ? tab.entries.get(e) : null;
    }

    private boolean isSet(int t) {
        return tab(t) != null && tab(t).set;
    }

    private Entry plateFigure(int t, int e) {
        Entry entry = entry(t, e);
        return entry != null && tab(t).set && entry.agreedOn != null ? entry : null;
    }

    int feed(int a, int b, int c, int d, int e) {
        if (text.length() + 20 > 200) {
            return NONE;
        }
        for (int four : new int[] {a, b, c, d, e}) {
            for (byte one : java.nio.ByteBuffer.allocate(4).putInt(four).array()) {
                text.append((char) (one & 255));
            }
        }
        return text.length();
    }

    boolean end(int n) {
        if (n < 0 || n > text.length()) {
            return false;
        }
        text.setLength(n);
        return true;
    }

    int fault() {
        try {
            new Grammar(text.toString()).whole();
            return NONE;
        } catch (Fault f) {
            return f.place;
        }
    }

    int sheet() {
        if (fault() != NONE || sheets.size() == 10) {
            return NONE;
        }
        sheets.add(new Grammar(text.toString()).whole());
        text.setLength(0);
        return sheets.size() - 1;
    }

    int value(int sheet, int n, int d, int what) {
        if (sheet < 0 || sheet >= sheets.size() || d < 1 || d > 1000000 || what != 0 && what != 1) {
            return VOID;
        }
        Frac x = Frac.of(n, d);
        Frac f = x == null ? null : sheets.get(sheet).at(x);
        return f == null ? VOID : (what == 0 ? f.n : f.d).intValueExact();
    }

    int go(int n) {
        if (n < 0 || n > 100) {
            return NONE;
        }
        now += n;
        if (now > 999) {
            now = 999;
        }
        return now;
    }

    int table(int sheet, int first, int steps, int size) {
        if (sheet < 0 || sheet >= sheets.size() || tables.size() == 5 || Math.abs((long) first) > 1000 || steps < 0 || size < 0) {
            return NONE;
        }
        int step = steps / 1000;
        int parts = steps % 1000;
        int n = size / 10;
        int places = size % 10;
        if (step < 1 || step > 100 || parts < 1 || parts > 100 || n < 4 || n > 30 || places > 4) {
            return NONE;
        }
        Tab tab = new Tab();
        for (int i = 0; i < n; i++) {
            Entry e = new Entry();
            e.truth = truth(sheets.get(sheet).at(Frac.of(first + i * step, parts)), places);
            tab.entries.add(e);
        }
        tables.add(tab);
        return tables.size() - 1;
    }

    private static Integer truth(Frac f, int places) {
        if (f == null) {
            return null;
        }
        java.math.BigDecimal d = new java.math.BigDecimal(f.n.multiply(BigInteger.TEN.pow(places)))
                .divide(new java.math.BigDecimal(f.d), 0, java.math.RoundingMode.HALF_UP);
        long whole = d.longValueExact();
        return Math.abs(whole) > 999999999 ? null : (Integer) (int) whole;
    }

    int exact(int t, int e) {
        Entry entry = entry(t, e);
        return entry == null || entry.truth == null ? VOID : entry.truth;
    }

    int hand() {
        return hands == 8 ? NONE : hands++;
    }

    int habit(int hand, int way, int what) {
        if (hand < 0 || hand >= hands || way < 0 || way > 2 || what < 0 || what > 899 || habits.size() == 24) {
            return NONE;
        }
        if (what / 10 % 10 == what % 10) {
            return NONE;
        }
        habits.add(new Habit(hand, way, what / 100, what / 10 % 10, what % 10));
        return habits.size();
    }

    int would(int hand, int way, int t, int e) {
        Entry entry = entry(t, e);
        if (entry == null || entry.truth == null || hand < 0 || hand >= hands || way < 0 || way > 2) {
            return VOID;
        }
        char[] nine = String.format("%09d", Math.abs(entry.truth)).toCharArray();
        for (Habit h : habits) {
            if (h.hand == hand && h.way == way && nine[8 - h.place] == '0' + h.from) {
                nine[8 - h.place] = (char) ('0' + h.to);
            }
        }
        return Integer.signum(entry.truth) < 0 ? -Integer.parseInt(new String(nine)) : Integer.parseInt(new String(nine));
    }

    int work(int hand, int way, int t, int e) {
        int wrote = would(hand, way, t, e);
        Entry entry = entry(t, e);
        if (wrote == VOID || tab(t).set || entry.agreedOn != null) {
            return VOID;
        }
        Work mine = null;
        for (Work w : entry.works) {
            if (w.hand == hand) {
                mine = w;
            }
        }
        if (mine == null && entry.works.size() == 2 || mine != null && entry.works.size() == 1) {
            return VOID;
        }
        if (mine == null) {
            entry.works.add(new Work(hand, way, wrote));
        } else {
            mine.way = way;
            mine.wrote = wrote;
        }
        if (entry.works.size() == 2) {
            Work a = entry.works.get(0);
            Work b = entry.works.get(1);
            if (a.wrote == b.wrote && a.way != b.way) {
                entry.agreedOn = now;
            }
        }
        return wrote;
    }

    int figure(int t, int e) {
        Entry entry = entry(t, e);
        return entry == null || entry.agreedOn == null ? VOID : entry.works.get(1).wrote;
    }

    int pair(int t, int what) {
        if (tab(t) == null || hands < 2 || what < 0 || what > 5) {
            return NONE;
        }
        List<int[]> all = new ArrayList<>();
        for (int a = 0; a < hands; a++) {
            for (int b = a + 1; b < hands; b++) {
                for (int ways = 0; ways < 9; ways++) {
                    if (ways / 3 != ways % 3) {
                        all.add(weighed(t, a, ways / 3, b, ways % 3));
                    }
                }
            }
        }
        all.sort(Comparator.<int[]>comparingInt(p -> p[4]).thenComparingInt(p -> -p[5]).thenComparingInt(p -> p[0])
                .thenComparingInt(p -> p[1]).thenComparingInt(p -> p[2]).thenComparingInt(p -> p[3]));
        return all.get(0)[what];
    }

    private int[] weighed(int t, int a, int wa, int b, int wb) {
        int[] p = {a, wa, b, wb, 0, 0};
        for (int i = 0; i < tab(t).entries.size(); i++) {
            int u = would(a, wa, t, i);
            if (u != VOID && u == would(b, wb, t, i)) {
                p[u == exact(t, i) ? 5 : 4]++;
            }
        }
        return p;
    }

    /** The columns, or null if the engine can't be set so. */
    private int[][] columns(int t, int i, int d) {
        if (tab(t) == null || d < 1 || d > 4 || i < 0 || (long) i + d > tab(t).entries.size() - 1) {
            return null;
        }
        int[][] made = new int[5][9];
        for (int k = 0; k <= d; k++) {
            BigInteger difference = BigInteger.ZERO;
            BigInteger choose = BigInteger.ONE;
            for (int j = 0; j <= k; j++) {
                if (exact(t, i + j) == VOID) {
                    return null;
                }
                BigInteger part = choose.multiply(BigInteger.valueOf(exact(t, i + j)));
                difference = (k - j) % 2 == 0 ? difference.add(part) : difference.subtract(part);
                choose = choose.multiply(BigInteger.valueOf(k - j)).divide(BigInteger.valueOf(j + 1));
            }
            if (exact(t, i + d) == VOID) {
                return null;
            }
            String nine = String.format("%09d", difference.mod(LIMIT));
            for (int w = 0; w < 9; w++) {
                made[k][w] = nine.charAt(8 - w) - '0';
            }
        }
        return made;
    }

    int engine(int t, int i, int d) {
        int[][] made = columns(t, i, d);
        if (made == null) {
            return NONE;
        }
        digits = made;
        sticks.clear();
        bell = 0;
        turns = 0;
        return 14 + 4 * d;
    }

    boolean stick(int wheel, int ahead, int n) {
        if (wheel < 0 || wheel / 10 > 4 || wheel % 10 > 8 || ahead < 0 || ahead > 50 || n < 1 || n > 50 || sticks.size() == 12) {
            return false;
        }
        sticks.add(new Stick(wheel / 10, wheel % 10, turns + ahead, turns + ahead + n));
        return true;
    }

    /** A turn of any columns: how often the bell rang. */
    private static int turned(int[][] digits, List<Stick> sticks, int turn) {
        int rang = 0;
        int[][] was = new int[5][];
        for (int k = 0; k < 5; k++) {
            was[k] = digits[k].clone();
        }
        for (int k = 0; k < 4; k++) {
            int carry = 0;
            for (int w = 0; w < 9; w++) {
                boolean stuck = false;
                for (Stick s : sticks) {
                    stuck |= s.column == k && s.wheel == w && s.from <= turn && turn < s.until;
                }
                int sum = was[k][w] + was[k + 1][w] + carry;
                carry = stuck || sum < 10 ? 0 : 1;
                digits[k][w] = stuck ? was[k][w] : sum % 10;
            }
            rang += carry;
        }
        return rang;
    }

    private static int number(int[] nine) {
        StringBuilder s = new StringBuilder();
        for (int digit : nine) {
            s.insert(0, digit);
        }
        return Integer.parseInt(s.toString());
    }

    private static int shown(int[] nine) {
        int n = number(nine);
        return n > 499999999 ? n - 1000000000 : n;
    }

    int turn(int n) {
        if (n < 0 || n > 60) {
            return VOID;
        }
        for (int i = 0; i < n; i++) {
            bell += turned(digits, sticks, turns);
            turns++;
        }
        return shown(digits[0]);
    }

    int column(int k) {
        return k < 0 || k > 6 ? NONE : k == 6 ? turns : k == 5 ? bell : number(digits[k]);
    }

    int settings(int t, int e) {
        if (tab(t) == null || e < 0 || e > 99) {
            return NONE;
        }
        return leastFrom(t, e, 0, new Integer[31]);
    }

    /** From the end on, where TableHouse goes from the start. */
    private int leastFrom(int t, int e, int i, Integer[] known) {
        int n = tab(t).entries.size();
        if (i == n) {
            return 0;
        }
        if (known[i] != null) {
            return known[i];
        }
        int best = leastFrom(t, e, i + 1, known) + (exact(t, i) == VOID ? 0 : 30);
        for (int d = 1; d <= 4; d++) {
            int[][] run = columns(t, i, d);
            for (int j = i; run != null && j < n; j++) {
                if (exact(t, j) == VOID || Math.abs((long) exact(t, j) - shown(run[0])) > e) {
                    break;
                }
                if (j >= i + d) {
                    best = Math.min(best, 14 + 4 * d + j - i + leastFrom(t, e, j + 1, known));
                }
                turned(run, List.of(), 0);
            }
        }
        known[i] = best;
        return best;
    }

    int row(int number) {
        if (Math.abs((long) number) > 999999 || row.size() == 20) {
            return NONE;
        }
        row.add(number);
        return row.size();
    }

    int lay(int t, int from, int n) {
        if (tab(t) == null || from < 0 || n < 1 || n > 20 || (long) from + n > tab(t).entries.size()) {
            return NONE;
        }
        row = new ArrayList<>();
        int noGaps = 0;
        for (int i = from; i < from + n; i++) {
            int f = figure(t, i);
            boolean gap = f == VOID || Math.abs(f) > 999999;
            row.add(gap ? null : (Integer) f);
            noGaps += gap ? 0 : 1;
        }
        return noGaps;
    }

    int clear() {
        int were = row.size();
        row.clear();
        return were;
    }

    /** What each curve misses, in the order of curves; null if it can't be asked. */
    private List<Integer> missed(int m, int r) {
        List<Integer> there = new ArrayList<>();
        for (int i = 0; i < row.size(); i++) {
            if (row.get(i) != null) {
                there.add(i);
            }
        }
        if (m < 0 || m > 3 || r < 0 || r > 9 || there.size() < m + 1) {
            return null;
        }
        List<Integer> all = new ArrayList<>();
        choose(there, m + 1, 0, new ArrayList<>(), r, all);
        return all;
    }

    private void choose(List<Integer> there, int many, int from, List<Integer> chosen, int r, List<Integer> all) {
        if (chosen.size() == many) {
            int bits = 0;
            for (int place : there) {
                bits |= fits(chosen, place, r) ? 0 : 1 << place;
            }
            all.add(bits);
            return;
        }
        for (int i = from; i < there.size(); i++) {
            chosen.add(there.get(i));
            choose(there, many, i + 1, chosen, r, all);
            chosen.remove(chosen.size() - 1);
        }
    }

    /** By Lagrange's form over one common divisor. */
    private boolean fits(List<Integer> chosen, int place, int r) {
        BigInteger n = BigInteger.ZERO;
        BigInteger d = BigInteger.ONE;
        for (int p : chosen) {
            BigInteger un = BigInteger.valueOf(row.get(p));
            BigInteger ud = BigInteger.ONE;
            for (int o : chosen) {
                if (o != p) {
                    un = un.multiply(BigInteger.valueOf(place - o));
                    ud = ud.multiply(BigInteger.valueOf(p - o));
                }
            }
            n = n.multiply(ud).add(un.multiply(d));
            d = d.multiply(ud);
        }
        BigInteger off = n.subtract(d.multiply(BigInteger.valueOf(row.get(place)))).abs();
        return off.compareTo(d.abs().multiply(BigInteger.valueOf(r))) <= 0;
    }

    private static int best(List<Integer> all) {
        int best = all.get(0);
        for (int bits : all) {
            if (Integer.bitCount(bits) < Integer.bitCount(best)) {
                best = bits;
            }
        }
        return best;
    }

    int suspects(int m, int r) {
        List<Integer> all = missed(m, r);
        return all == null ? NONE : best(all);
    }

    int rivals(int m, int r) {
        List<Integer> all = missed(m, r);
        if (all == null) {
            return NONE;
        }
        int best = best(all);
        Set<Integer> others = new HashSet<>(all);
        others.removeIf(bits -> bits == best || Integer.bitCount(bits) != Integer.bitCount(best));
        return others.size();
    }

    private boolean there(long from, long to) {
        for (long i = from; i <= to; i++) {
            if (i < 0 || i >= row.size() || row.get((int) i) == null) {
                return false;
            }
        }
        return true;
    }

    int middle(int i, int p, int q) {
        if (p <= 0 || p >= q || q > 100 || !there(i - 1L, i + 2L)) {
            return VOID;
        }
        BigInteger n = BigInteger.ZERO;
        BigInteger d = BigInteger.ONE;
        for (int a = -1; a <= 2; a++) {
            BigInteger un = BigInteger.valueOf(row.get(i + a));
            BigInteger ud = BigInteger.ONE;
            for (int b = -1; b <= 2; b++) {
                if (a != b) {
                    un = un.multiply(BigInteger.valueOf(p - b * q));
                    ud = ud.multiply(BigInteger.valueOf((a - b) * q));
                }
            }
            n = n.multiply(ud).add(un.multiply(d));
            d = d.multiply(ud);
        }
        return new java.math.BigDecimal(n).divide(new java.math.BigDecimal(d), 0, java.math.RoundingMode.HALF_UP).intValueExact();
    }

    int bound(int i) {
        Integer greatest = null;
        for (long from = i - 2L; from <= i - 1L; from++) {
            if (there(from, from + 4)) {
                int[] five = new int[5];
                for (int k = 0; k < 5; k++) {
                    five[k] = row.get((int) from + k);
                }
                for (int level = 4; level > 0; level--) {
                    for (int k = 0; k < level; k++) {
                        five[k] = five[k + 1] - five[k];
                    }
                }
                greatest = greatest == null ? Math.abs(five[0]) : Math.max(greatest, Math.abs(five[0]));
            }
        }
        return greatest == null ? NONE : 3 * greatest / 128 + (3 * greatest % 128 == 0 ? 0 : 1);
    }

    int set(int t) {
        if (tab(t) == null || tab(t).set) {
            return NONE;
        }
        int figures = 0;
        for (Entry e : tab(t).entries) {
            if (e.truth != null && e.agreedOn == null) {
                return NONE;
            }
            figures += e.truth != null ? 1 : 0;
        }
        tab(t).set = true;
        return figures;
    }

    boolean hard(int copies) {
        if (copies < 100 || copies > 5000) {
            return false;
        }
        hard = copies;
        return true;
    }

    int print(int t, int copies) {
        if (!isSet(t) || copies < 1 || copies > 5000 || tab(t).copies + copies > 60000) {
            return NONE;
        }
        Tab tab = tab(t);
        for (int i = 0; i < copies; i++) {
            tab.since++;
            if (tab.since >= hard) {
                tab.since = 0;
                for (Entry e : tab.entries) {
                    e.worn++;
                }
            }
        }
        tab.copies += copies;
        return tab.copies;
    }

    boolean mend(int t, int e) {
        Entry entry = plateFigure(t, e);
        if (entry == null) {
            return false;
        }
        entry.worn = 0;
        return true;
    }

    int read(int t, int e) {
        Entry entry = plateFigure(t, e);
        if (entry == null) {
            return VOID;
        }
        char[] digits = Integer.toString(figure(t, e)).toCharArray();
        for (int i = 0; i < digits.length; i++) {
            char was = digits[i];
            digits[i] = was == '3' && entry.worn >= 4 ? '8'
                    : was == '8' && entry.worn >= 7 ? '3'
                    : was == '1' && entry.worn >= 5 ? '7'
                    : was == '6' && entry.worn >= 6 ? '5'
                    : was;
        }
        return Integer.parseInt(new String(digits));
    }

    int erratum(int t, int e, int is, int should) {
        if (plateFigure(t, e) == null || Math.abs((long) is) > 999999999 || Math.abs((long) should) > 999999999 || errata.size() == 40) {
            return NONE;
        }
        errata.add(new Err(t, e, is, should, now));
        return errata.size() - 1;
    }

    int misses(int number) {
        if (number < 0 || number >= errata.size()) {
            return NONE;
        }
        int[][] stand = new int[5][30];
        int missed = 0;
        for (int t = 0; t < 5; t++) {
            for (int e = 0; e < 30; e++) {
                stand[t][e] = figure(t, e);
            }
        }
        for (int i = 0; i <= number; i++) {
            Err err = errata.get(i);
            missed = stand[err.table][err.entry] == err.is ? 0 : 1;
            if (missed == 0) {
                stand[err.table][err.entry] = err.should;
            }
        }
        return missed;
    }

    int known(int t, int e, int day) {
        if (plateFigure(t, e) == null || day < 0 || day > 999) {
            return VOID;
        }
        int stands = figure(t, e);
        for (int i = 0; i < errata.size(); i++) {
            Err err = errata.get(i);
            if (err.day <= day && err.table == t && err.entry == e && misses(i) == 0) {
                stands = err.should;
            }
        }
        return stands;
    }

    boolean rival(int t, int e, int number) {
        if (!isSet(t) || entry(t, e) == null || number != VOID && Math.abs((long) number) > 999999999) {
            return false;
        }
        entry(t, e).rival = number == VOID ? null : (Integer) number;
        return true;
    }

    int shared(int t) {
        if (!isSet(t)) {
            return NONE;
        }
        int found = 0;
        for (int e = 0; e < tab(t).entries.size(); e++) {
            Entry entry = entry(t, e);
            found += entry.rival != null && entry.isFalse() && entry.rival == figure(t, e) ? 1 : 0;
        }
        return found;
    }

    /** Counts the heaps one entry after another, where TableHouse multiplies. */
    int copied(int t) {
        if (!isSet(t)) {
            return NONE;
        }
        int f = 0;
        List<Boolean> ours = new ArrayList<>();
        for (Entry e : tab(t).entries) {
            if (e.rival != null) {
                ours.add(e.isFalse());
                f += e.truth == null || !e.rival.equals(e.truth) ? 1 : 0;
            }
        }
        long[][] ways = new long[32][32];
        ways[0][0] = 1;
        for (boolean our : ours) {
            for (int taken = 30; taken >= 0; taken--) {
                for (int of = 30; of >= 0; of--) {
                    ways[taken + 1][of + (our ? 1 : 0)] += ways[taken][of];
                }
            }
        }
        long all = Arrays.stream(ways[f]).sum();
        long asMany = Arrays.stream(ways[f], shared(t), 32).sum();
        return asMany * 100 < all ? 1 : 0;
    }

    int lead(int t, int e, int what) {
        Entry entry = entry(t, e);
        if (entry == null) {
            return NONE;
        }
        if (what >= 0 && what <= 3) {
            if (entry.works.size() <= what / 2) {
                return NONE;
            }
            Work w = entry.works.get(what / 2);
            return what % 2 == 0 ? w.hand : w.way;
        }
        if (entry.agreedOn == null) {
            return NONE;
        }
        return what == 4 ? entry.agreedOn : what == 5 ? (entry.isFalse() ? 1 : 0) : what == 6 && tab(t).set ? entry.worn : NONE;
    }

    int count(int what) {
        int[] plain = {now, sheets.size(), tables.size(), hands, habits.size(), row.size(), errata.size(), text.length()};
        if (what >= 0 && what < plain.length) {
            return plain[what];
        }
        if (what < 10 || what >= 40 || tab(what % 10) == null) {
            return NONE;
        }
        Tab tab = tab(what % 10);
        if (what >= 30) {
            return tab.copies;
        }
        int found = 0;
        for (Entry e : tab.entries) {
            found += what < 20 ? (e.agreedOn != null ? 1 : 0) : (e.isFalse() ? 1 : 0);
        }
        return found;
    }
}
