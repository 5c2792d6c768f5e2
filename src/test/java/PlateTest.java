/** Promises 28 to 40: plates, errata, rivals, what leads to each figure, and counts. */
public final class PlateTest {
    private static final int NONE = TableHouse.NONE;
    private static final int VOID = TableHouse.VOID;

    public static void main(String[] args) {
        setting();
        notSet();
        wearing();
        hardness();
        printLimits();
        mending();
        reading();
        errata();
        errataLimits();
        rivals();
        copying();
        leads();
        counts();
        Check.close();
    }

    /** A house whose table 0 is worked by two hands without habits, and SET. */
    private static TableHouse plate(String text, int first, int entries) {
        TableHouse x = Check.house(text, first, entries, 0);
        x.hand();
        x.hand();
        Check.workAll(x, 0, 0, 1);
        x.set(0);
        return x;
    }

    private static void setting() {
        TableHouse x = Check.house("1/x", -1, 5, 2);
        x.hand();
        x.hand();
        Check.due("set of nothing agreed", x.set(0), NONE);
        Check.workAll(x, 0, 0, 1);
        Check.due("set of no table", x.set(1), NONE);
        Check.due("set", x.set(0), 4);
        Check.due("set again", x.set(0), NONE);
        Check.due("work of a set one", x.work(0, 0, 0, 0), VOID);
        TableHouse y = Check.house("x", 0, 4, 0);
        y.hand();
        y.hand();
        for (int i = 0; i < 3; i++) {
            y.work(0, 0, 0, i);
            y.work(1, 1, 0, i);
        }
        y.work(0, 0, 0, 3);
        y.work(1, 0, 0, 3);
        Check.due("one isn't agreed", y.set(0), NONE);
        y.work(1, 1, 0, 3);
        Check.due("now all are", y.set(0), 4);
        TableHouse w = Check.house("x", 0, 4, 0);
        w.hand();
        w.hand();
        for (int i = 1; i < 4; i++) {
            w.work(0, 0, 0, i);
            w.work(1, 1, 0, i);
        }
        Check.due("the first isn't agreed", w.set(0), NONE);
        TableHouse z = Check.house("1/0", 0, 4, 0);
        Check.due("without figures", z.set(0), 0);
        Check.due("read of it", z.read(0, 0), VOID);
        Check.due("mend of it", z.mend(0, 0), false);
        Check.due("known of it", z.known(0, 0, 0), VOID);
        Check.due("erratum of it", z.erratum(0, 0, 1, 2), NONE);
        Check.due("steps of it", z.lead(0, 0, 6), NONE);
        Check.due("print of it", z.print(0, 5), 5);
    }

    private static void notSet() {
        TableHouse x = Check.house("x", 0, 4, 0);
        x.hand();
        x.hand();
        Check.workAll(x, 0, 0, 1);
        Check.due("print", x.print(0, 1), NONE);
        Check.due("mend", x.mend(0, 0), false);
        Check.due("read", x.read(0, 0), VOID);
        Check.due("erratum", x.erratum(0, 0, 0, 1), NONE);
        Check.due("known", x.known(0, 0, 0), VOID);
        Check.due("rival", x.rival(0, 0, 1), false);
        Check.due("shared", x.shared(0), NONE);
        Check.due("copied", x.copied(0), NONE);
        Check.due("steps", x.lead(0, 0, 6), NONE);
        Check.due("copies", x.count(30), 0);
        Check.due("errata", x.count(6), 0);
    }

    private static void wearing() {
        TableHouse x = plate("x*1000*1000+381630", 1, 4);
        int[] want = {1381630, 1381630, 1381630, 1381630, 1881680, 7887680, 7887580, 7837580, 7837580};
        for (int step = 0; step < want.length; step++) {
            Check.due("read at step " + step, x.read(0, 0), want[step]);
            Check.due("steps", x.lead(0, 0, 6), step);
            x.print(0, 999);
            Check.due("not yet", x.read(0, 0), want[step]);
            x.print(0, 1);
        }
        Check.due("figure stands", x.figure(0, 0), 1381630);
        Check.due("known stands", x.known(0, 0, 0), 1381630);
    }

    private static void hardness() {
        TableHouse x = plate("x", 0, 4);
        Check.due("hard 99", x.hard(99), false);
        Check.due("hard 5001", x.hard(5001), false);
        x.print(0, 1000);
        Check.due("still 1000", x.lead(0, 0, 6), 1);
        Check.due("hard 5000", x.hard(5000), true);
        x.print(0, 4999);
        Check.due("not yet", x.lead(0, 0, 6), 1);
        Check.due("hard 100", x.hard(100), true);
        Check.due("told alone it wears nothing", x.lead(0, 0, 6), 1);
        x.print(0, 1);
        Check.due("one step, however many", x.lead(0, 0, 6), 2);
        x.print(0, 99);
        Check.due("counted from 0", x.lead(0, 0, 6), 2);
        x.print(0, 1);
        Check.due("and again", x.lead(0, 0, 6), 3);
        x.print(0, 250);
        Check.due("two and a half", x.lead(0, 0, 6), 5);
        x.hard(150);
        x.print(0, 100);
        Check.due("100 after 50", x.lead(0, 0, 6), 6);
        x.print(0, 60);
        x.hard(100);
        x.print(0, 45);
        Check.due("105 are 100 and 5", x.lead(0, 0, 6), 7);
        x.print(0, 94);
        Check.due("99", x.lead(0, 0, 6), 7);
        x.print(0, 1);
        Check.due("100", x.lead(0, 0, 6), 8);
    }

    private static void printLimits() {
        TableHouse x = plate("x", 0, 4);
        Check.due("print 0", x.print(0, 0), NONE);
        Check.due("print -1", x.print(0, -1), NONE);
        Check.due("print 5001", x.print(0, 5001), NONE);
        Check.due("print of table 1", x.print(1, 1), NONE);
        for (int i = 1; i <= 11; i++) {
            Check.due("print 5000", x.print(0, 5000), 5000 * i);
        }
        Check.due("print 4999", x.print(0, 4999), 59999);
        Check.due("print 2", x.print(0, 2), NONE);
        Check.due("copies", x.count(30), 59999);
        Check.due("print 1", x.print(0, 1), 60000);
        Check.due("steps", x.lead(0, 0, 6), 60);
        Check.due("print 1", x.print(0, 1), NONE);
    }

    private static void mending() {
        TableHouse x = plate("x", 33, 4);
        x.print(0, 3500);
        Check.due("mend", x.mend(0, 0), true);
        Check.due("no entry", x.mend(0, 4), false);
        Check.due("no entry", x.mend(0, -1), false);
        Check.due("no table", x.mend(1, 0), false);
        x.print(0, 500);
        Check.due("mended", x.read(0, 0), 33);
        Check.due("its steps", x.lead(0, 0, 6), 1);
        Check.due("not mended", x.read(0, 1), 84);
        Check.due("its steps", x.lead(0, 1, 6), 4);
    }

    private static void reading() {
        TableHouse x = plate("0-x*111111", 1, 9);
        Check.due("read", x.read(0, 0), -111111);
        x.print(0, 5000);
        Check.due("below 0", x.read(0, 0), -777777);
        Check.due("below 0", x.read(0, 2), -888888);
        Check.due("no entry", x.read(0, 9), VOID);
        Check.due("no entry", x.read(0, -1), VOID);
        Check.due("no table", x.read(1, 0), VOID);
        x.print(0, 5000);
        Check.due("3", x.read(0, 2), -888888);
        Check.due("8", x.read(0, 7), -333333);
        Check.due("6", x.read(0, 5), -555555);
        Check.due("2", x.read(0, 1), -222222);
        Check.due("9", x.read(0, 8), -999999);
        Check.due("0", plate("0", 0, 4).read(0, 0), 0);
    }

    private static void errata() {
        TableHouse x = plate("x", 10, 4);
        x.go(5);
        Check.due("erratum", x.erratum(0, 0, 10, 11), 0);
        Check.due("of another entry", x.erratum(0, 1, 10, 11), 1);
        x.go(1);
        Check.due("on what became", x.erratum(0, 0, 11, 12), 2);
        Check.due("on what was", x.erratum(0, 0, 10, 13), 3);
        x.go(1);
        Check.due("back", x.erratum(0, 0, 12, 10), 4);
        Check.due("it stands again", x.erratum(0, 0, 10, 14), 5);
        int[] misses = {0, 1, 0, 1, 0, 0};
        for (int i = 0; i < misses.length; i++) {
            Check.due("misses " + i, x.misses(i), misses[i]);
        }
        Check.due("misses 6", x.misses(6), NONE);
        Check.due("misses -1", x.misses(-1), NONE);
        int[] known = {10, 10, 10, 10, 10, 11, 12, 14, 14};
        for (int day = 0; day < known.length; day++) {
            Check.due("known on " + day, x.known(0, 0, day), known[day]);
        }
        Check.due("known on the last day", x.known(0, 0, 999), 14);
        Check.due("what missed changed nothing", x.known(0, 1, 999), 11);
        Check.due("day 1000", x.known(0, 0, 1000), VOID);
        Check.due("day -1", x.known(0, 0, -1), VOID);
        Check.due("no entry", x.known(0, 4, 0), VOID);
        Check.due("no table", x.known(1, 0, 0), VOID);
        Check.due("plates stay", x.read(0, 0), 10);
        Check.due("figures stay", x.figure(0, 0), 10);
    }

    private static void errataLimits() {
        TableHouse x = plate("x", 10, 4);
        Check.due("is too great", x.erratum(0, 0, 1000000000, 1), NONE);
        Check.due("is too small", x.erratum(0, 0, -1000000000, 1), NONE);
        Check.due("should too great", x.erratum(0, 0, 1, 1000000000), NONE);
        Check.due("should too small", x.erratum(0, 0, 1, VOID), NONE);
        Check.due("no entry", x.erratum(0, 4, 1, 1), NONE);
        Check.due("no entry", x.erratum(0, -1, 1, 1), NONE);
        Check.due("no table", x.erratum(1, 0, 1, 1), NONE);
        Check.due("none yet", x.misses(0), NONE);
        for (int i = 0; i < 40; i++) {
            Check.due("erratum", x.erratum(0, i % 4, 999999999, -999999999), i);
        }
        Check.due("erratum 40", x.erratum(0, 0, 10, 11), NONE);
        Check.due("errata", x.count(6), 40);
        Check.due("known", x.known(0, 0, 0), 10);
    }

    /** Table 0 is x from 0 on; entries below so many are FALSE (their tens are 5). */
    private static TableHouse falseOnes(int entries, int falseOnes) {
        TableHouse x = Check.house("x", 0, entries, 0);
        x.hand();
        x.hand();
        x.hand();
        x.habit(1, 0, 205);
        x.habit(2, 1, 205);
        for (int i = 0; i < entries; i++) {
            x.work(i < falseOnes ? 1 : 0, 0, 0, i);
            x.work(i < falseOnes ? 2 : 0, i < falseOnes ? 1 : 0, 0, i);
            if (i >= falseOnes) {
                x.work(1, 1, 0, i);
            }
        }
        Check.due("set", x.set(0), entries);
        Check.due("false ones", x.count(20), falseOnes);
        return x;
    }

    private static void rivals() {
        TableHouse x = falseOnes(8, 3);
        Check.due("shared without", x.shared(0), 0);
        Check.due("copied without", x.copied(0), 0);
        Check.due("rival", x.rival(0, 0, 500), true);
        Check.due("shared", x.shared(0), 1);
        Check.due("another number", x.rival(0, 1, 502), true);
        Check.due("shared", x.shared(0), 1);
        Check.due("a true one", x.rival(0, 7, 7), true);
        Check.due("shared", x.shared(0), 1);
        Check.due("told anew", x.rival(0, 1, 501), true);
        Check.due("shared", x.shared(0), 2);
        Check.due("none there", x.rival(0, 0, VOID), true);
        Check.due("shared", x.shared(0), 1);
        Check.due("too great", x.rival(0, 0, 1000000000), false);
        Check.due("too small", x.rival(0, 0, -1000000000), false);
        Check.due("greatest", x.rival(0, 0, 999999999), true);
        Check.due("least", x.rival(0, 0, -999999999), true);
        Check.due("no entry", x.rival(0, 8, 1), false);
        Check.due("no entry", x.rival(0, -1, 1), false);
        Check.due("no table", x.rival(1, 0, 1), false);
        Check.due("shared of no table", x.shared(1), NONE);
        Check.due("copied of no table", x.copied(-1), NONE);
    }

    private static void copying() {
        TableHouse x = falseOnes(30, 2);
        for (int i = 0; i < 30; i++) {
            x.rival(0, i, x.exact(0, i));
        }
        Check.due("all true", x.copied(0), 0);
        x.rival(0, 0, 500);
        Check.due("one of two: 2 of 30", x.copied(0), 0);
        x.rival(0, 1, 501);
        Check.due("two of two: 1 of 435", x.copied(0), 1);
        x.rival(0, 29, 0);
        x.rival(0, 28, 0);
        Check.due("four false: 6 of 435", x.copied(0), 0);
        x.rival(0, 28, 28);
        Check.due("three false: 3 of 435", x.copied(0), 1);
        TableHouse y = falseOnes(25, 2);
        for (int i = 0; i < 25; i++) {
            y.rival(0, i, i < 2 ? 500 + i : i);
        }
        Check.due("1 of 300", y.copied(0), 1);
        for (int i = 24; i >= 15; i--) {
            y.rival(0, i, VOID);
        }
        Check.due("1 of 105", y.copied(0), 1);
        y.rival(0, 14, VOID);
        Check.due("1 of 91", y.copied(0), 0);
        TableHouse z = falseOnes(25, 4);
        for (int i = 0; i < 25; i++) {
            z.rival(0, i, i == 0 ? 500 : i == 24 ? 0 : i);
        }
        Check.due("one of two by chance", z.copied(0), 0);
        TableHouse w = falseOnes(20, 5);
        for (int i = 0; i < 20; i++) {
            w.rival(0, i, i < 5 ? 9 : i);
        }
        Check.due("false at the same places, nothing shared", w.copied(0), 0);
        hundredth();
    }

    /** Just one of 100 is not fewer. */
    private static void hundredth() {
        TableHouse x = falseOnes(25, 3);
        for (int i = 0; i < 25; i++) {
            x.rival(0, i, i < 2 ? 500 + i : i);
        }
        Check.due("3 of 300 is one of 100", x.copied(0), 0);
        TableHouse y = falseOnes(26, 2);
        for (int i = 0; i < 26; i++) {
            y.rival(0, i, i < 2 ? 500 + i : i == 25 ? 0 : i);
        }
        Check.due("24 of 2600", y.copied(0), 1);
        y.rival(0, 24, VOID);
        Check.due("23 of 2300 is one of 100", y.copied(0), 0);
    }

    private static void leads() {
        TableHouse x = plate("x", 10, 4);
        int[] want = {0, 0, 1, 1, 0, 0, 0};
        for (int what = 0; what < want.length; what++) {
            Check.due("lead " + what, x.lead(0, 0, what), want[what]);
        }
        Check.due("lead 7", x.lead(0, 0, 7), NONE);
        Check.due("lead -1", x.lead(0, 0, -1), NONE);
        Check.due("no entry", x.lead(0, 4, 0), NONE);
        Check.due("no entry", x.lead(0, -1, 0), NONE);
        Check.due("no table", x.lead(1, 0, 0), NONE);
    }

    private static void counts() {
        TableHouse x = plate("x", 10, 4);
        x.go(9);
        x.print(0, 17);
        x.row(4);
        x.erratum(0, 0, 1, 2);
        x.habit(0, 0, 12);
        Check.text(x, "abc");
        int[] want = {9, 1, 1, 2, 1, 1, 1, 3, NONE, NONE, 4, NONE};
        for (int what = 0; what < want.length; what++) {
            Check.due("count " + what, x.count(what), want[what]);
        }
        Check.due("count 20", x.count(20), 0);
        Check.due("count 21", x.count(21), NONE);
        Check.due("count 30", x.count(30), 17);
        Check.due("count 31", x.count(31), NONE);
        Check.due("count 40", x.count(40), NONE);
        Check.due("count -1", x.count(-1), NONE);
        Check.due("count -10", x.count(-10), NONE);
        Check.due("count VOID", x.count(VOID), NONE);
        x.end(0);
        Check.sheet(x, "1/x");
        for (int i = 1; i < 5; i++) {
            x.table(1, 0, 1001, 40);
        }
        Check.due("count 14", x.count(14), 0);
        Check.due("count 15", x.count(15), NONE);
        Check.due("count 34", x.count(34), 0);
    }
}
