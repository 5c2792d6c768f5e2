/** Promises 16 to 20: the engine, wheels that stick, the bell, and settings. */
public final class EngineTest {
    private static final int NONE = TableHouse.NONE;
    private static final int VOID = TableHouse.VOID;

    public static void main(String[] args) {
        setting();
        settingWide();
        turning();
        sticking();
        stickingAndCarries();
        stickLimits();
        settings();
        settingsWithGaps();
        settingsShown();
        Check.close();
    }

    private static void columns(TableHouse x, int... want) {
        for (int k = 0; k < want.length; k++) {
            Check.due("column " + k, x.column(k), want[k]);
        }
    }

    private static void setting() {
        TableHouse x = Check.house("x*x*x*x-50", 0, 6, 0);
        Check.due("engine d 1", x.engine(0, 0, 1), 18);
        columns(x, 999999950, 1, 0, 0, 0, 0, 0);
        Check.due("engine d 4", x.engine(0, 1, 4), 30);
        columns(x, 999999951, 15, 50, 60, 24, 0, 0);
        Check.due("shown", x.turn(0), -49);
        x.turn(3);
        Check.due("turns", x.column(6), 3);
        Check.due("d 0", x.engine(0, 0, 0), NONE);
        Check.due("d 5", x.engine(0, 0, 5), NONE);
        Check.due("entry -1", x.engine(0, -1, 1), NONE);
        Check.due("i and d above the last", x.engine(0, 2, 4), NONE);
        Check.due("entry far", x.engine(0, 2147483647, 4), NONE);
        Check.due("table 1", x.engine(1, 0, 1), NONE);
        Check.due("what is refused changes nothing", x.column(6), 3);
        Check.due("engine", x.engine(0, 4, 1), 18);
        columns(x, 206, 369, 0, 0, 0, 0, 0);
        Check.due("column 7", x.column(7), NONE);
        Check.due("column -1", x.column(-1), NONE);
        TableHouse y = Check.house("1/(x-3)", 0, 8, 2);
        Check.due("behind NONE", y.engine(0, 4, 3), 26);
        Check.due("with NONE", y.engine(0, 2, 1), NONE);
        Check.due("from NONE", y.engine(0, 3, 1), NONE);
    }

    /** Differences that are wider than a column lose what has no wheel. */
    private static void settingWide() {
        TableHouse x = Check.house("if cut(x/2)*2=x then 90000 else -90000", 0, 8, 4);
        Check.due("exact", x.exact(0, 0), 900000000);
        Check.due("exact", x.exact(0, 1), -900000000);
        Check.due("engine", x.engine(0, 0, 4), 30);
        columns(x, 900000000, 200000000, 600000000, 800000000, 400000000);
        Check.due("shown", x.turn(0), -100000000);
        Check.due("shown", x.turn(1), 100000000);
        Check.due("shown", x.turn(1), -100000000);
    }

    private static void turning() {
        TableHouse x = Check.house("x*x-4", 0, 4, 0);
        Check.due("turn before setting", x.turn(60), 0);
        Check.due("engine", x.engine(0, 0, 2), 22);
        Check.due("turn -1", x.turn(-1), VOID);
        Check.due("turn 61", x.turn(61), VOID);
        Check.due("turns", x.column(6), 0);
        Check.due("turn", x.turn(1), -3);
        Check.due("bell", x.column(5), 0);
        Check.due("turn", x.turn(1), 0);
        Check.due("bell", x.column(5), 1);
        Check.due("turn", x.turn(58), 3596);
        Check.due("turn", x.turn(60), 14396);
        columns(x, 14396, 241, 2, 0, 0, 1, 120);
        Check.due("set again", x.engine(0, 0, 1), 18);
        columns(x, 999999996, 1, 0, 0, 0, 0, 0);
    }

    private static void sticking() {
        TableHouse x = Check.house("x*5", 1, 4, 0);
        Check.due("engine", x.engine(0, 0, 1), 18);
        Check.due("stick", x.stick(0, 1, 2), true);
        Check.due("turn 0", x.turn(1), 10);
        Check.due("turn 1: sticks", x.turn(1), 10);
        Check.due("turn 2: sticks", x.turn(1), 10);
        Check.due("turn 3", x.turn(1), 15);
        Check.due("stick from the next", x.stick(0, 0, 1), true);
        Check.due("sticks", x.turn(1), 15);
        Check.due("turn", x.turn(1), 20);
        Check.due("stick", x.stick(1, 50, 50), true);
        Check.due("50 turns", x.turn(50), 270);
        Check.due("one that sticks", x.turn(1), 275);
        Check.due("carry is lost", x.turn(1), 270);
        Check.due("48 more of those", x.turn(48), 270);
        Check.due("free again", x.turn(2), 280);
        Check.due("stick", x.stick(0, 0, 50), true);
        Check.due("set again", x.engine(0, 0, 1), 18);
        Check.due("no wheel sticks then", x.turn(1), 10);
    }

    private static void stickingAndCarries() {
        TableHouse x = Check.house("x*-1", 1, 4, 0);
        Check.due("engine", x.engine(0, 0, 1), 18);
        columns(x, 999999999, 999999999);
        Check.due("stick wheel 8", x.stick(8, 0, 1), true);
        Check.due("turn: 9 stays at wheel 8, no bell", x.turn(1), -2);
        Check.due("bell", x.column(5), 0);
        Check.due("turn", x.turn(1), -3);
        Check.due("bell", x.column(5), 1);
        Check.due("stick wheel 4 of column 0", x.stick(4, 0, 1), true);
        Check.due("turn: no carry to wheel 5", x.turn(1), 999899996 - 1000000000);
        Check.due("bell", x.column(5), 2);
        TableHouse y = Check.house("x*x", 0, 4, 0);
        Check.due("engine", y.engine(0, 0, 2), 22);
        Check.due("stick column 1", y.stick(10, 0, 2), true);
        Check.due("turn", y.turn(2), 2);
        columns(y, 2, 1, 2);
        Check.due("turn", y.turn(2), 6);
        columns(y, 6, 5, 2);
        Check.due("column 4 sticks without effect", y.stick(40, 0, 50), true);
        Check.due("turn", y.turn(1), 11);
        Check.due("two on one wheel", y.stick(0, 0, 1), true);
        Check.due("two on one wheel", y.stick(0, 1, 1), true);
        Check.due("turn", y.turn(2), 11);
        columns(y, 11, 11, 2);
    }

    private static void stickLimits() {
        TableHouse x = Check.house("x", 1, 4, 0);
        int[][] wrong = {{9, 0, 1}, {19, 0, 1}, {49, 0, 1}, {50, 0, 1}, {-1, 0, 1}, {0, -1, 1}, {0, 51, 1}, {0, 0, 0}, {0, 0, 51}, {VOID, 0, 1}};
        Check.due("engine", x.engine(0, 0, 1), 18);
        for (int[] w : wrong) {
            Check.due("stick that can't be", x.stick(w[0], w[1], w[2]), false);
        }
        for (int i = 0; i < 12; i++) {
            Check.due("stick " + i, x.stick(48, 50, 50), true);
        }
        Check.due("stick 12", x.stick(0, 0, 1), false);
        Check.due("turn", x.turn(1), 2);
        Check.due("engine", x.engine(0, 0, 1), 18);
        Check.due("stick", x.stick(0, 0, 1), true);
        Check.due("turn", x.turn(1), 1);
    }

    private static void settings() {
        TableHouse x = Check.house("x*x", 0, 30, 0);
        Check.due("one run of two differences", x.settings(0, 0), 22 + 29);
        Check.due("table 1", x.settings(1, 0), NONE);
        Check.due("table -1", x.settings(-1, 0), NONE);
        Check.due("e -1", x.settings(0, -1), NONE);
        Check.due("e 100", x.settings(0, 100), NONE);
        TableHouse y = Check.house("7", 0, 4, 0);
        Check.due("one difference at least", y.settings(0, 99), 18 + 3);
        TableHouse z = Check.house("if x<4 then x else 1000+x*3", 0, 8, 0);
        Check.due("two runs", z.settings(0, 0), 18 + 3 + 18 + 3);
        TableHouse w = Check.house("if x=3 then 5 else 0", 0, 7, 0);
        Check.due("a run of one difference, then one of three", w.settings(0, 4), 18 + 2 + 26 + 3);
        Check.due("near enough", w.settings(0, 5), 18 + 6);
        Check.due("e leaves differences as they are", w.settings(0, 99), 18 + 6);
    }

    private static void settingsWithGaps() {
        TableHouse x = Check.house("1/(x-x)", 0, 30, 0);
        Check.due("nothing to work", x.settings(0, 0), 0);
        TableHouse y = Check.house("if x=1 then 1/0 else x", 0, 4, 0);
        Check.due("a hand and a run", y.settings(0, 0), 30 + 18 + 1);
        TableHouse z = Check.house("if cut(x/2)*2=x then x else 1/0", 0, 6, 0);
        Check.due("all by hand", z.settings(0, 99), 90);
    }

    /** What is SHOWN is below 500000000, so that greater ones are left to hands. */
    private static void settingsShown() {
        TableHouse x = Check.house("x*10000+49997", 0, 4, 4);
        Check.due("exact", x.exact(0, 0), 499970000);
        Check.due("all but the first by hand", x.settings(0, 99), 120);
        TableHouse y = Check.house("499999*1000+998+x", 0, 4, 0);
        y.engine(0, 0, 1);
        Check.due("just below the half", y.turn(1), 499999999);
        Check.due("the half", y.turn(1), -500000000);
        TableHouse z = Check.house("49999+x/2", -1, 6, 4);
        Check.due("exact", z.exact(0, 2), 499995000);
        Check.due("exact", z.exact(0, 3), 500000000);
        Check.due("a run up to the limit, the rest by hand", z.settings(0, 0), 18 + 2 + 90);
    }
}
