/** Promises 7 to 15: days, tables, hands, habits, what they write, figures and pairs. */
public final class TableTest {
    private static final int NONE = TableHouse.NONE;
    private static final int VOID = TableHouse.VOID;

    public static void main(String[] args) {
        days();
        tables();
        rounding();
        habits();
        written();
        working();
        workingAnew();
        pairs();
        Check.close();
    }

    private static void days() {
        TableHouse x = new TableHouse();
        Check.due("go 0", x.go(0), 0);
        Check.due("go 100", x.go(100), 100);
        Check.due("go 101", x.go(101), NONE);
        Check.due("go -1", x.go(-1), NONE);
        Check.due("now", x.count(0), 100);
        for (int i = 2; i <= 9; i++) {
            Check.due("go 100", x.go(100), 100 * i);
        }
        Check.due("go 98", x.go(98), 998);
        Check.due("go to the last day", x.go(1), 999);
        Check.due("go beyond it", x.go(5), 999);
    }

    private static void tables() {
        TableHouse x = new TableHouse();
        Check.due("sheet", Check.sheet(x, "x"), 0);
        int[][] wrong = {
            {1, 0, 1001, 40}, {-1, 0, 1001, 40}, {0, 1001, 1001, 40}, {0, -1001, 1001, 40}, {0, 0, 1, 40},
            {0, 0, 1000, 40}, {0, 0, 1101, 40}, {0, 0, 101001, 40}, {0, 0, -1001, 40}, {0, 0, -1, 40},
            {0, 0, 1001, 39}, {0, 0, 1001, 30}, {0, 0, 1001, 45}, {0, 0, 1001, 310}, {0, 0, 1001, -40}, {0, 0, VOID, 40},
        };
        for (int[] w : wrong) {
            Check.due("table that can't be", x.table(w[0], w[1], w[2], w[3]), NONE);
        }
        Check.due("tables", x.count(2), 0);
        Check.due("table 0", x.table(0, -1000, 100100, 304), 0);
        Check.due("table 1", x.table(0, 1000, 1100, 40), 1);
        Check.due("table 2", x.table(0, 7, 3002, 41), 2);
        Check.due("table 3", x.table(0, 0, 1001, 40), 3);
        Check.due("table 4", x.table(0, 0, 1001, 40), 4);
        Check.due("table 5", x.table(0, 0, 1001, 40), NONE);
        Check.due("exact 0 0", x.exact(0, 0), -100000);
        Check.due("exact 0 29", x.exact(0, 29), 190000);
        Check.due("exact 0 30", x.exact(0, 30), VOID);
        Check.due("exact 0 -1", x.exact(0, -1), VOID);
        Check.due("exact 1 3", x.exact(1, 3), 10);
        Check.due("exact 2 3", x.exact(2, 3), 80);
        Check.due("exact 5 0", x.exact(5, 0), VOID);
        Check.due("exact -1 0", x.exact(-1, 0), VOID);
    }

    private static void rounding() {
        TableHouse x = new TableHouse();
        Check.sheet(x, "x/4");
        Check.sheet(x, "1/x");
        Check.sheet(x, "x*100000");
        Check.due("table", x.table(0, -3, 1001, 300), 0);
        int[] want = {-1, -1, 0, 0, 0, 1, 1, 1, 1, 2, 2, 2};
        for (int i = 0; i < want.length; i++) {
            Check.due("quarters " + i, x.exact(0, i), want[i]);
        }
        Check.due("table", x.table(1, -3, 1001, 84), 1);
        Check.due("-1/3", x.exact(1, 0), -3333);
        Check.due("-1/2", x.exact(1, 1), -5000);
        Check.due("1/0", x.exact(1, 3), VOID);
        Check.due("1/3", x.exact(1, 6), 3333);
        Check.due("table", x.table(2, 0, 1001, 124), 2);
        Check.due("0", x.exact(2, 0), 0);
        Check.due("1000000000", x.exact(2, 1), VOID);
        Check.due("table", x.table(2, 998, 1001, 41), 3);
        Check.due("998000000", x.exact(3, 0), 998000000);
        Check.due("999000000", x.exact(3, 1), 999000000);
        Check.due("10 to 9", x.exact(3, 2), VOID);
        Check.due("table", x.table(2, -998, 1001, 41), 4);
        Check.due("-998000000", x.exact(4, 0), -998000000);
        Check.due("the greatest", Check.house("999999*1000+999", 0, 4, 0).exact(0, 0), 999999999);
        Check.due("the least", Check.house("-999999*1000-999", 0, 4, 0).exact(0, 0), -999999999);
        Check.due("beyond it", Check.house("-999999*1000-1000", 0, 4, 0).exact(0, 0), VOID);
    }

    private static void habits() {
        TableHouse x = new TableHouse();
        Check.due("habit of none", x.habit(0, 0, 12), NONE);
        for (int i = 0; i < 8; i++) {
            Check.due("hand " + i, x.hand(), i);
        }
        Check.due("hand 8", x.hand(), NONE);
        Check.due("hands", x.count(3), 8);
        int[][] wrong = {{8, 0, 12}, {-1, 0, 12}, {0, 3, 12}, {0, -1, 12}, {0, 0, 11}, {0, 0, 0}, {0, 0, 900}, {0, 0, 912}, {0, 0, -12}, {0, 0, VOID}};
        for (int[] w : wrong) {
            Check.due("habit that can't be", x.habit(w[0], w[1], w[2]), NONE);
        }
        for (int i = 1; i <= 24; i++) {
            Check.due("habit " + i, x.habit(i % 8, i % 3, 898 - i % 3), i);
        }
        Check.due("habit 25", x.habit(0, 0, 12), NONE);
        Check.due("habits", x.count(4), 24);
    }

    private static void written() {
        TableHouse x = Check.house("x*1000+7", -1, 4, 0);
        Check.due("would without hands", x.would(0, 0, 0, 0), VOID);
        x.hand();
        x.hand();
        Check.due("habit", x.habit(0, 0, 79), 1);
        Check.due("habit", x.habit(0, 0, 92), 2);
        Check.due("habit", x.habit(0, 0, 105), 3);
        Check.due("habit", x.habit(0, 2, 806), 4);
        Check.due("habit", x.habit(0, 1, 70), 5);
        Check.due("habit", x.habit(0, 1, 104), 6);
        Check.due("habit", x.habit(0, 1, 140), 7);
        Check.due("-993 by way 0: the place of tens is 9", x.would(0, 0, 0, 0), -993);
        Check.due("7 becomes 9, then 2; tens 5", x.would(0, 0, 0, 1), 52);
        Check.due("1007", x.would(0, 0, 0, 2), 1052);
        Check.due("7 by way 2", x.would(0, 2, 0, 1), 600000007);
        Check.due("-993 by way 2", x.would(0, 2, 0, 0), -600000993);
        Check.due("7 by way 1: tens become 4 and 0 again", x.would(0, 1, 0, 1), 0);
        Check.due("another hand", x.would(1, 0, 0, 1), 7);
        Check.due("no hand 2", x.would(2, 0, 0, 1), VOID);
        Check.due("no way 3", x.would(0, 3, 0, 1), VOID);
        Check.due("no entry 4", x.would(0, 0, 0, 4), VOID);
        Check.due("no table 1", x.would(0, 0, 1, 0), VOID);
        TableHouse y = Check.house("1/x", -5, 8, 0);
        y.hand();
        y.habit(0, 0, 3);
        y.habit(0, 1, 10);
        Check.due("0 below 0 has no sign", y.would(0, 0, 0, 0), 3);
        Check.due("of NONE nothing", y.would(0, 0, 0, 5), VOID);
        Check.due("-1 becomes 0", y.would(0, 1, 0, 4), 0);
    }

    private static void working() {
        TableHouse x = Check.house("1/x", -2, 4, 1);
        x.hand();
        x.hand();
        x.hand();
        Check.due("figure of nobody", x.figure(0, 0), VOID);
        Check.due("lead of nobody", x.lead(0, 0, 0), NONE);
        Check.due("work of NONE", x.work(0, 0, 0, 2), VOID);
        Check.due("nobody worked it", x.lead(0, 2, 0), NONE);
        Check.due("work", x.work(1, 2, 0, 0), -5);
        Check.due("first hand", x.lead(0, 0, 0), 1);
        Check.due("first way", x.lead(0, 0, 1), 2);
        Check.due("no second one", x.lead(0, 0, 2), NONE);
        Check.due("the same hand alone", x.work(1, 0, 0, 0), VOID);
        Check.due("its way stays", x.lead(0, 0, 1), 2);
        Check.due("figure of one", x.figure(0, 0), VOID);
        x.go(7);
        Check.due("no such way", x.work(0, 3, 0, 0), VOID);
        Check.due("no such hand", x.work(3, 0, 0, 0), VOID);
        Check.due("no such entry", x.work(0, 0, 0, 4), VOID);
        Check.due("no such table", x.work(0, 0, 1, 0), VOID);
        Check.due("second", x.work(0, 1, 0, 0), -5);
        Check.due("agreed", x.figure(0, 0), -5);
        Check.due("on day 7", x.lead(0, 0, 4), 7);
        Check.due("second hand", x.lead(0, 0, 2), 0);
        Check.due("second way", x.lead(0, 0, 3), 1);
        Check.due("true", x.lead(0, 0, 5), 0);
        Check.due("agreed entries", x.count(10), 1);
        Check.due("work what is agreed", x.work(0, 2, 0, 0), VOID);
        Check.due("by a third", x.work(2, 2, 0, 0), VOID);
        Check.due("figure of no entry", x.figure(0, 4), VOID);
        Check.due("figure of no table", x.figure(1, 0), VOID);
    }

    private static void workingAnew() {
        TableHouse x = Check.house("x", 1, 4, 0);
        x.hand();
        x.hand();
        x.hand();
        x.habit(0, 0, 12);
        x.habit(1, 1, 12);
        Check.due("first", x.work(0, 0, 0, 0), 2);
        x.go(2);
        Check.due("second by the same way", x.work(1, 0, 0, 0), 1);
        Check.due("not agreed", x.figure(0, 0), VOID);
        Check.due("no day", x.lead(0, 0, 4), NONE);
        Check.due("not known to be false", x.lead(0, 0, 5), NONE);
        Check.due("a third can't", x.work(2, 1, 0, 0), VOID);
        x.go(3);
        Check.due("the first one anew", x.work(0, 0, 0, 0), 2);
        Check.due("still not", x.figure(0, 0), VOID);
        Check.due("the second one anew", x.work(1, 1, 0, 0), 2);
        Check.due("agreed", x.figure(0, 0), 2);
        Check.due("day", x.lead(0, 0, 4), 5);
        Check.due("false", x.lead(0, 0, 5), 1);
        Check.due("false ones", x.count(20), 1);
        Check.due("first", x.work(0, 1, 0, 1), 2);
        Check.due("second alike by the same way", x.work(1, 1, 0, 1), 2);
        Check.due("not agreed", x.figure(0, 1), VOID);
        x.go(1);
        Check.due("the first one anew by another way", x.work(0, 2, 0, 1), 2);
        Check.due("agreed", x.figure(0, 1), 2);
        Check.due("still the first", x.lead(0, 1, 0), 0);
        Check.due("with the new way", x.lead(0, 1, 1), 2);
        Check.due("day", x.lead(0, 1, 4), 6);
        Check.due("agreed ones", x.count(10), 2);
        Check.due("false ones", x.count(20), 1);
    }

    private static void pair(TableHouse x, int table, int... want) {
        for (int what = 0; what < want.length; what++) {
            Check.due("pair " + what, x.pair(table, what), want[what]);
        }
    }

    private static void pairs() {
        TableHouse x = Check.house("x", 0, 12, 0);
        Check.due("pair without hands", x.pair(0, 0), NONE);
        x.hand();
        Check.due("pair of one hand", x.pair(0, 0), NONE);
        x.hand();
        pair(x, 0, 0, 0, 1, 1, 0, 12);
        Check.due("pair 6", x.pair(0, 6), NONE);
        Check.due("pair -1", x.pair(0, -1), NONE);
        Check.due("pair of table 1", x.pair(1, 0), NONE);
        x.habit(0, 0, 12);
        pair(x, 0, 0, 1, 1, 0, 0, 12);
        x.habit(0, 1, 12);
        x.habit(0, 2, 12);
        pair(x, 0, 0, 0, 1, 1, 0, 10);
        x.habit(1, 0, 14);
        x.habit(1, 1, 12);
        x.habit(1, 2, 12);
        pair(x, 0, 0, 1, 1, 0, 0, 10);
        x.hand();
        pair(x, 0, 0, 0, 2, 1, 0, 10);
        x.hand();
        pair(x, 0, 2, 0, 3, 1, 0, 12);
        TableHouse y = Check.house("1/(x-x)", 0, 4, 0);
        y.hand();
        y.hand();
        pair(y, 0, 0, 0, 1, 1, 0, 0);
        TableHouse z = Check.house("x", 0, 5, 0);
        z.hand();
        z.hand();
        for (int hand = 0; hand < 2; hand++) {
            for (int way = 0; way < 3; way++) {
                z.habit(hand, way, 34);
            }
        }
        z.habit(1, 2, 45);
        pair(z, 0, 0, 0, 1, 2, 0, 3);
        TableHouse u = Check.house("x", 1, 4, 0);
        u.hand();
        u.hand();
        u.habit(0, 0, 12);
        pair(u, 0, 0, 1, 1, 0, 0, 4);
        TableHouse v = Check.house("x", 0, 30, 0);
        v.hand();
        v.hand();
        for (int i = 0; i < 6; i++) {
            v.habit(i % 2, i % 3, 801);
        }
        pair(v, 0, 0, 0, 1, 1, 30, 0);
    }
}
