import java.util.Random;

/** Random runs of at most 512 calls, each answer compared with that of the Oracle. The seeds are fixed. */
public final class OracleTest {
    private static final int VOID = TableHouse.VOID;
    private static final int RUNS = 300;

    private final Random random;
    private final TableHouse x = new TableHouse();
    private final Oracle o = new Oracle();
    private final StringBuilder told = new StringBuilder();
    private int calls = 0;

    private OracleTest(long seed) {
        random = new Random(seed);
    }

    public static void main(String[] args) {
        int runs = args.length > 0 ? Integer.parseInt(args[0]) : RUNS;
        for (int seed = 0; seed < runs; seed++) {
            new OracleTest(seed).run(seed);
        }
        Check.close();
    }

    private void same(String call, long got, long want) {
        calls++;
        told.append(call).append(' ');
        if (got != want) {
            System.out.println("after: " + told);
        }
        Check.due(call, got, want);
    }

    private void same(String call, boolean got, boolean want) {
        same(call, got ? 1 : 0, want ? 1 : 0);
    }

    private int upTo(int n) {
        return random.nextInt(n);
    }

    private int between(int least, int most) {
        return least + random.nextInt(most - least + 1);
    }

    /** Mostly within, sometimes at or beyond the edges, rarely anything. */
    private int near(int least, int most) {
        int kind = upTo(40);
        if (kind == 0) {
            return least - 1;
        }
        if (kind == 1) {
            return most + 1;
        }
        if (kind == 2) {
            return random.nextInt();
        }
        if (kind == 3) {
            return upTo(2) == 0 ? Integer.MAX_VALUE : Integer.MIN_VALUE;
        }
        return between(least, most);
    }

    private void run(int seed) {
        int kind = seed % 5;
        while (calls < 470) {
            switch (kind) {
                case 0:
                    texts();
                    break;
                case 1:
                    rows();
                    break;
                case 2:
                    plates();
                    break;
                case 3:
                    copies();
                    break;
                default:
                    anything();
                    break;
            }
        }
    }

    private void tell(String text) {
        same("end(0)", x.end(0), o.end(0));
        for (int at = 0; at < text.length(); at += 20) {
            int[] v = new int[5];
            for (int i = 0; i < 20; i++) {
                v[i / 4] = v[i / 4] << 8 | (at + i < text.length() ? text.charAt(at + i) & 255 : ' ');
            }
            same("feed", x.feed(v[0], v[1], v[2], v[3], v[4]), o.feed(v[0], v[1], v[2], v[3], v[4]));
        }
        same("end of '" + text + "'", x.end(text.length()), o.end(text.length()));
    }

    private String number() {
        int kind = upTo(6);
        return Integer.toString(kind == 0 ? upTo(1000000) : kind == 1 ? upTo(1000) : upTo(10));
    }

    private String sum(int depth) {
        StringBuilder s = new StringBuilder(product(depth));
        while (upTo(3) == 0) {
            s.append(upTo(2) == 0 ? " + " : "-").append(product(depth));
        }
        return s.toString();
    }

    private String product(int depth) {
        StringBuilder s = new StringBuilder(factor(depth));
        while (upTo(3) == 0) {
            s.append(upTo(2) == 0 ? "*" : " / ").append(factor(depth));
        }
        return s.toString();
    }

    private String factor(int depth) {
        int kind = depth <= 0 ? upTo(5) : upTo(13);
        switch (kind) {
            case 0:
            case 1:
                return number();
            case 5:
                return "(" + sum(depth - 1) + ")";
            case 6:
                return "-" + factor(depth - 1);
            case 7:
                return "root " + factor(depth - 1);
            case 8:
                return "cut " + factor(depth - 1);
            case 9:
                return "least(" + sum(depth - 1) + "," + sum(depth - 1) + ")";
            case 10:
                return "most (" + sum(depth - 1) + " , " + sum(depth - 1) + ")";
            case 11:
                return "if " + sum(depth - 1) + "<>=".charAt(upTo(3)) + sum(depth - 1) + " then " + sum(depth - 1) + " else " + sum(depth - 1);
            default:
                return "x";
        }
    }

    private static final String[] PARTS = {
        "x", "(", ")", "-", "+", "*", "/", ",", "<", ">", "=", "root", "cut", "least", "most", "if", "then", "else",
        " ", "  ", "7", "999999", "1000000", "0001", "then ", " else ", "if ", "(x", "-x", "\u00ff", "\u0000", "A", "a", "xy", "\n",
    };

    private String text() {
        String made;
        do {
            made = sum(between(0, 4));
        } while (made.length() > 200);
        if (upTo(3) == 0) {
            int at = upTo(made.length() + 1);
            int to = Math.min(made.length(), at + upTo(3));
            made = made.substring(0, at) + PARTS[upTo(PARTS.length)] + made.substring(to);
        } else if (upTo(8) == 0) {
            StringBuilder s = new StringBuilder();
            for (int i = upTo(14); i >= 0; i--) {
                s.append(PARTS[upTo(PARTS.length)]);
            }
            made = s.toString();
        } else if (upTo(10) == 0) {
            String part = new String[] {"(", "-", "root ", "cut ", "least(", "most(", "if x<1 then "}[upTo(7)];
            made = part.repeat(between(8, 11)) + made;
        }
        return made.length() > 200 ? made.substring(0, 200) : made;
    }

    private void texts() {
        String text = text();
        tell(text);
        same("fault", x.fault(), o.fault());
        if (upTo(6) == 0) {
            int n = near(0, text.length());
            same("end", x.end(n), o.end(n));
            same("fault", x.fault(), o.fault());
        }
        same("sheet", x.sheet(), o.sheet());
        for (int i = 0; i < 4; i++) {
            int sheet = near(0, Math.max(0, o.count(1) - 1));
            int n = upTo(3) == 0 ? random.nextInt() : between(-50, 50);
            int d = upTo(3) == 0 ? near(1, 1000000) : between(1, 10);
            same("value(" + sheet + "," + n + "," + d + ")", x.value(sheet, n, d, 0), o.value(sheet, n, d, 0));
            same("value", x.value(sheet, n, d, 1), o.value(sheet, n, d, 1));
        }
    }

    private void rows() {
        same("clear", x.clear(), o.clear());
        int many = between(0, 21);
        int[] c = {between(-99, 99), between(-20, 20), between(-5, 5), between(-2, 2)};
        int degree = upTo(5);
        int noise = upTo(4) == 0 ? upTo(12) : upTo(3);
        for (int i = 0; i < many; i++) {
            int value = 0;
            for (int k = Math.min(3, degree); k >= 0; k--) {
                value = value * i + c[k];
            }
            value += noise == 0 ? 0 : between(-noise, noise);
            value = upTo(5) == 0 ? near(-999999, 999999) : upTo(5) == 0 ? value + between(-9, 9) : value;
            value = degree == 4 ? upTo(4) : value;
            same("row(" + value + ")", x.row(value), o.row(value));
        }
        for (int i = 0; i < 3; i++) {
            int m = near(0, many > 12 ? 2 : 3);
            int r = near(0, 9);
            same("suspects(" + m + "," + r + ")", x.suspects(m, r), o.suspects(m, r));
            same("rivals", x.rivals(m, r), o.rivals(m, r));
        }
        askMiddles();
    }

    private void askMiddles() {
        for (int i = 0; i < 4; i++) {
            int place = near(-1, 20);
            int q = near(1, 100);
            int p = upTo(3) == 0 ? near(0, 100) : between(0, 1 + Math.abs(q % 101) / 2);
            same("middle(" + place + "," + p + "," + q + ")", x.middle(place, p, q), o.middle(place, p, q));
            same("bound(" + place + ")", x.bound(place), o.bound(place));
        }
    }

    private static final String[] FUNCTIONS = {
        "x*x", "x", "7", "x*x*x-5*x", "1/x", "root x", "1000/(x-3)", "if x<4 then x*x else 40-x", "cut(x/3)", "x*12345-99999",
        "if x=2 then 1/0 else 3*x", "root(x*x+5)", "0-x*x", "x*90000", "if cut(x/2)*2=x then 49999 else 50001+x", "1/0", "33*x+168",
    };

    private void makeTable() {
        String text = upTo(4) == 0 ? text() : FUNCTIONS[upTo(FUNCTIONS.length)];
        tell(text);
        same("fault", x.fault(), o.fault());
        same("sheet", x.sheet(), o.sheet());
        int sheet = near(0, Math.max(0, o.count(1) - 1));
        int first = upTo(3) == 0 ? near(-1000, 1000) : between(-5, 5);
        int step = upTo(3) == 0 ? near(1, 100) : 1;
        int parts = upTo(3) == 0 ? near(1, 100) : between(1, 4);
        int n = upTo(2) == 0 ? near(4, 30) : between(4, 9);
        int size = n * 10 + (upTo(20) == 0 ? upTo(10) : upTo(5));
        int steps = step * 1000 + parts;
        same("table(" + sheet + "," + first + "," + steps + "," + size + ")", x.table(sheet, first, steps, size), o.table(sheet, first, steps, size));
    }

    private int aTable() {
        return near(0, Math.max(0, o.count(2) - 1));
    }

    private int anEntry(int t) {
        return near(0, upTo(3) == 0 ? 29 : 8);
    }

    private void tellHands() {
        for (int i = upTo(4); i >= 0; i--) {
            same("hand", x.hand(), o.hand());
        }
        for (int i = upTo(5); i >= 0; i--) {
            int hand = near(0, 4);
            int way = near(0, 2);
            int what = upTo(3) == 0 ? near(0, 899) : between(0, 2) * 100 + between(0, 9) * 10 + between(0, 9);
            same("habit(" + hand + "," + way + "," + what + ")", x.habit(hand, way, what), o.habit(hand, way, what));
        }
    }

    private void work(int hand, int way, int t, int e) {
        same("work(" + hand + "," + way + "," + t + "," + e + ")", x.work(hand, way, t, e), o.work(hand, way, t, e));
    }

    private void workTable(int t) {
        for (int e = 0; e < 30 && o.exact(t, e) != VOID | e < 9; e++) {
            int a = upTo(3);
            int wayA = upTo(3);
            work(a, wayA, t, e);
            int b = (a + 1) % 3;
            work(b, (wayA + 1) % 3, t, e);
            for (int i = 0; i < 4 && o.figure(t, e) == VOID && o.exact(t, e) != VOID; i++) {
                work(upTo(2) == 0 ? a : b, upTo(3), t, e);
            }
        }
    }

    private void plates() {
        if (o.count(2) == 0 || upTo(12) == 0) {
            makeTable();
            tellHands();
        }
        int t = aTable();
        if (upTo(4) == 0) {
            workTable(t);
            same("set(" + t + ")", x.set(t), o.set(t));
        }
        for (int i = 0; i < 8; i++) {
            plateCall(t, anEntry(t));
        }
    }

    private void plateCall(int t, int e) {
        int n;
        switch (upTo(11)) {
            case 0:
                n = near(100, 5000);
                same("hard(" + n + ")", x.hard(n), o.hard(n));
                break;
            case 1:
            case 2:
                n = upTo(3) == 0 ? near(1, 5000) : between(1, 900);
                same("print(" + t + "," + n + ")", x.print(t, n), o.print(t, n));
                break;
            case 3:
                same("mend(" + t + "," + e + ")", x.mend(t, e), o.mend(t, e));
                break;
            case 4:
                same("read(" + t + "," + e + ")", x.read(t, e), o.read(t, e));
                break;
            case 5:
                int is = upTo(3) == 0 ? near(-999999999, 999999999) : o.known(t, e, 999);
                int should = upTo(3) == 0 ? near(-999999999, 999999999) : o.exact(t, e);
                same("erratum(" + t + "," + e + "," + is + "," + should + ")", x.erratum(t, e, is, should), o.erratum(t, e, is, should));
                break;
            case 6:
                n = near(0, Math.max(0, o.count(6) - 1));
                same("misses(" + n + ")", x.misses(n), o.misses(n));
                break;
            case 7:
                n = upTo(2) == 0 ? near(0, 999) : between(0, o.count(0));
                same("known(" + t + "," + e + "," + n + ")", x.known(t, e, n), o.known(t, e, n));
                break;
            case 8:
                tellRivals(t);
                break;
            case 9:
                n = near(0, 6);
                same("lead(" + t + "," + e + "," + n + ")", x.lead(t, e, n), o.lead(t, e, n));
                break;
            default:
                n = upTo(10) == 0 ? near(0, 100) : upTo(4);
                same("go(" + n + ")", x.go(n), o.go(n));
                break;
        }
    }

    /** Tables many of whose figures are FALSE, since two hands have the same habits. */
    private void copies() {
        if (o.count(3) == 0) {
            for (int i = 0; i < 4; i++) {
                same("hand", x.hand(), o.hand());
            }
            for (int i = between(1, 4); i > 0; i--) {
                int what = upTo(3) * 100 + upTo(10) * 10 + upTo(10);
                same("habit(2,0," + what + ")", x.habit(2, 0, what), o.habit(2, 0, what));
                same("habit(3,1," + what + ")", x.habit(3, 1, what), o.habit(3, 1, what));
            }
        }
        if (o.count(2) < 3) {
            makeTable();
            int t = o.count(2) - 1;
            int many = upTo(6);
            for (int e = 0; e < 30 && calls < 350; e++) {
                int first = upTo(6) < many ? 2 : 0;
                work(first, 0, t, e);
                work(first + 1, 1, t, e);
            }
            same("set(" + t + ")", x.set(t), o.set(t));
        }
        int t = aTable();
        tellRivals(t);
        plateCall(t, anEntry(t));
    }

    private void tellRivals(int t) {
        boolean thief = upTo(3) == 0 && calls < 350;
        for (int i = 0; i < (thief ? 30 : 12); i++) {
            int e = thief ? i : upTo(3) == 0 ? near(0, 29) : upTo(9);
            int kind = thief ? 2 + upTo(upTo(3) + 2) : upTo(6);
            int number = kind == 0 ? near(-999999999, 999999999) : kind == 1 ? VOID : kind < 4 ? o.figure(t, e) : o.exact(t, e);
            same("rival(" + t + "," + e + "," + number + ")", x.rival(t, e, number), o.rival(t, e, number));
        }
        same("shared(" + t + ")", x.shared(t), o.shared(t));
        same("copied(" + t + ")", x.copied(t), o.copied(t));
    }

    private void anything() {
        if (o.count(2) == 0 || upTo(25) == 0) {
            makeTable();
            tellHands();
        }
        int t = aTable();
        int e = anEntry(t);
        int n = near(0, 99);
        switch (upTo(12)) {
            case 0:
                plateCall(t, e);
                break;
            case 1:
                n = near(1, 4);
                same("engine(" + t + "," + e + "," + n + ")", x.engine(t, e, n), o.engine(t, e, n));
                break;
            case 2:
                int wheel = upTo(3) == 0 ? near(0, 49) : upTo(5) * 10 + upTo(4);
                int ahead = upTo(3) == 0 ? near(0, 50) : upTo(4);
                n = upTo(3) == 0 ? near(1, 50) : between(1, 9);
                same("stick(" + wheel + "," + ahead + "," + n + ")", x.stick(wheel, ahead, n), o.stick(wheel, ahead, n));
                break;
            case 3:
            case 4:
                n = upTo(3) == 0 ? near(0, 60) : upTo(5);
                same("turn(" + n + ")", x.turn(n), o.turn(n));
                for (int k = -1; k < 8; k++) {
                    same("column(" + k + ")", x.column(k), o.column(k));
                }
                break;
            case 5:
                same("settings(" + t + "," + n + ")", x.settings(t, n), o.settings(t, n));
                break;
            case 6:
                same("exact(" + t + "," + e + ")", x.exact(t, e), o.exact(t, e));
                same("figure(" + t + "," + e + ")", x.figure(t, e), o.figure(t, e));
                int hand = near(0, 3);
                int way = near(0, 2);
                same("would(" + hand + "," + way + "," + t + "," + e + ")", x.would(hand, way, t, e), o.would(hand, way, t, e));
                break;
            case 7:
                work(near(0, 3), near(0, 2), t, upTo(3) == 0 ? e : upTo(5));
                break;
            case 8:
                n = near(0, 5);
                same("pair(" + t + "," + n + ")", x.pair(t, n), o.pair(t, n));
                break;
            case 9:
                layRow(t);
                break;
            case 10:
                if (upTo(6) == 0) {
                    workTable(t);
                    same("set(" + t + ")", x.set(t), o.set(t));
                } else {
                    tellHands();
                }
                break;
            default:
                n = near(-1, 41);
                same("count(" + n + ")", x.count(n), o.count(n));
                break;
        }
    }

    private void layRow(int t) {
        int from = upTo(2) == 0 ? near(0, 29) : upTo(4);
        int n = upTo(2) == 0 ? near(1, 20) : between(1, 8);
        same("lay(" + t + "," + from + "," + n + ")", x.lay(t, from, n), o.lay(t, from, n));
        int more = between(-99, 99);
        same("row(" + more + ")", x.row(more), o.row(more));
        int m = near(0, 2);
        int r = near(0, 9);
        same("suspects(" + m + "," + r + ")", x.suspects(m, r), o.suspects(m, r));
        same("rivals(" + m + "," + r + ")", x.rivals(m, r), o.rivals(m, r));
        askMiddles();
    }
}
