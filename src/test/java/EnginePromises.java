/** Promises 16 to 20 with part 3 of the document: the engine, wheels that stick, turns, columns, settings. */
final class EnginePromises {
    /** Columns 0 to 2 are all 999999999 at its first entry. */
    private static final String FALLING = "-1-x-x*(x-1)/2";

    private EnginePromises() {
    }

    static void all() {
        promise16();
        promise16Columns();
        promise17();
        promise17Limits();
        promise17Sticking();
        promise18();
        promise18Turns();
        promise19();
        promise20();
        promise20Runs();
        promise20Shown();
    }

    private static Run columns(Run x, int... want) {
        for (int k = 0; k < want.length; k++) {
            x.due("column(" + k + ")", want[k]);
        }
        return x;
    }

    private static void promise16() {
        Run.of(16, "SET to an ENTRY with D differences: what it costs").table("x", 0, 6, 0).due("engine(0, 0, 1)", 18)
                .due("engine(0, 1, 4)", 30);
        Run.of(16, "Setting costs 14 and 4 for each of D.").table("x", 0, 5, 0).due("engine(0, 0, 1)", 18).due("engine(0, 0, 2)", 22)
                .due("engine(0, 0, 3)", 26).due("engine(0, 0, 4)", 30);
        Run.of(16, "NONE if it can't be.").refused("engine(0, 0, 1)").table("x", 0, 6, 0)
                .tell("engine(0, 1, 2)", "turn(3)", "stick(0, 0, 2)")
                .refused("engine(1, 0, 1)", "engine(-1, 0, 1)", "engine(LEAST, 0, 1)", "engine(0, -1, 1)", "engine(0, 6, 1)",
                        "engine(0, LEAST, 1)", "engine(0, GREATEST, 1)")
                .due("column(6)", 3).due("turn(1)", 4);
        Run x = Run.of(16, "SET to an ENTRY i of a TABLE with D differences (1 .. 4; i and D not above its last ENTRY):")
                .table("x*x", 0, 4, 0).table("x*x", 0, 7, 0);
        x.due("engine(0, 0, 3)", 26).refused("engine(0, 0, 4)").due("engine(0, 1, 2)", 22).refused("engine(0, 1, 3)")
                .due("engine(0, 2, 1)", 18).refused("engine(0, 2, 2)", "engine(0, 3, 1)");
        x.due("engine(1, 2, 4)", 30).refused("engine(1, 3, 4)").due("engine(1, 5, 1)", 18).refused("engine(1, 6, 1)", "engine(1, 7, 1)");
        x.refused("engine(1, 0, 0)", "engine(1, 0, 5)", "engine(1, 0, -1)", "engine(1, 0, LEAST)", "engine(1, 0, GREATEST)",
                "engine(1, 1, GREATEST)", "engine(1, GREATEST, GREATEST)");
        Run y = Run.of(16, "NONE of these may be NONE.").table("1/(x-4)", 0, 10, 2);
        y.due("engine(0, 0, 3)", 26).refused("engine(0, 0, 4)").due("engine(0, 2, 1)", 18)
                .refused("engine(0, 2, 2)", "engine(0, 3, 1)", "engine(0, 4, 1)", "engine(0, 4, 4)").due("engine(0, 5, 4)", 30);
    }

    private static void promise16Columns() {
        columns(Run.of(16,
                "THE ENGINE has COLUMNS 0 .. 4, each of WHEELS 0 .. 8 (0 the last digit): numbers 0 .. 999999999."), 0, 0, 0, 0, 0);
        columns(Run.of(16, "THE ENGINE has COLUMNS 0 .. 4, each of WHEELS 0 .. 8 (0 the last digit): numbers 0 .. 999999999.")
                .table("if x=0 then 0-999999*1000-999 else x-1", 0, 4, 0).tell("engine(0, 0, 1)"), 1, 999999999, 0, 0, 0);
        columns(Run.of(16, "THE ENGINE has COLUMNS 0 .. 4, each of WHEELS 0 .. 8 (0 the last digit): numbers 0 .. 999999999.")
                .table("if x=0 then 999999*1000+999 else x-1", 0, 4, 0).tell("engine(0, 0, 1)"), 999999999, 1, 0, 0, 0);
        columns(Run.of(16, "COLUMN 0 is TRUE of i, COLUMN k the k-th difference of TRUE of i, i + 1, ..").table("x*x*x*x", 0, 6, 0)
                .tell("engine(0, 0, 4)"), 0, 1, 14, 36, 24, 0, 0);
        columns(Run.of(16, "COLUMN 0 is TRUE of i, COLUMN k the k-th difference of TRUE of i, i + 1, ..").table("x*x*x*x", 0, 6, 0)
                .tell("engine(0, 1, 4)"), 1, 15, 50, 60, 24, 0, 0);
        columns(Run.of(16, "(below 0: less it from 1000000000),").table("0-x*x*x*x", 0, 6, 0)
                .tell("engine(0, 1, 4)"), 999999999, 999999985, 999999950, 999999940, 999999976);
        columns(Run.of(16, "(below 0: less it from 1000000000),").table("x-1", 0, 4, 0).tell("engine(0, 0, 1)"), 999999999, 1, 0, 0, 0);
        columns(Run.of(16, "(below 0: less it from 1000000000),").table("0", 0, 4, 0).tell("engine(0, 0, 3)"), 0, 0, 0, 0, 0);
        Run d = Run.of(16, "those behind D 0;").table("x*x*x*x", 0, 6, 0);
        columns(d.tell("engine(0, 1, 4)", "engine(0, 1, 3)"), 1, 15, 50, 60, 0);
        columns(d.tell("engine(0, 1, 2)"), 1, 15, 50, 0, 0);
        columns(d.tell("engine(0, 1, 1)"), 1, 15, 0, 0, 0);
        columns(d.tell("turn(1)"), 16, 15, 0, 0, 0);
    }

    private static void promise17() {
        Run x = Run.of(17,
                "A WHEEL (COLUMN * 10 + WHEEL) STICKS from the TURN that comes as so many from now (0: the next one) for n TURNS (1 .. 50): true").table("x", 1, 4, 0);
        x.tell("engine(0, 0, 1)").due("stick(0, 0, 1)", 1).due("turn(1)", 1).due("turn(1)", 2).due("stick(0, 1, 1)", 1).due("turn(1)", 3)
                .due("turn(1)", 3).due("turn(1)", 4);
        x.due("stick(0, 2, 3)", 1).due("turn(2)", 6).due("turn(3)", 6).due("turn(1)", 7);
        Run y = Run.of(17, "A WHEEL STICKS from a TURN on (counted since it was told to) for so many TURNS.").table("x", 1, 4, 0)
                .tell("engine(0, 0, 1)", "turn(5)");
        y.due("stick(0, 50, 50)", 1).due("turn(50)", 56).due("turn(50)", 56).due("turn(1)", 57);
        Run z = Run.of(17, "A WHEEL STICKS from a TURN on (counted since it was told to) for so many TURNS.").table("x", 1, 4, 0)
                .tell("engine(0, 0, 1)");
        z.due("stick(0, 1, 1)", 1).due("stick(0, 0, 3)", 1).due("turn(3)", 1).due("turn(1)", 2).due("stick(0, 0, 1)", 1)
                .due("stick(0, 0, 1)", 1).due("turn(1)", 2).due("turn(1)", 3);
    }

    private static void promise17Limits() {
        Run x = Run.of(17, "false if there is none such, or it can't be").table("x", 1, 4, 0).tell("engine(0, 0, 1)");
        x.refused("stick(9, 0, 1)", "stick(19, 0, 1)", "stick(29, 0, 1)", "stick(39, 0, 1)", "stick(49, 0, 1)", "stick(50, 0, 1)",
                "stick(58, 0, 1)", "stick(100, 0, 1)");
        x.refused("stick(-1, 0, 1)", "stick(-10, 0, 1)", "stick(LEAST, 0, 1)", "stick(GREATEST, 0, 1)", "stick(0, 0, 0)", "stick(0, 0, 51)",
                "stick(0, 0, -1)", "stick(0, 0, LEAST)", "stick(0, 0, GREATEST)");
        x.due("stick(8, 0, 1)", 1).due("stick(10, 0, 50)", 1).due("stick(40, 0, 1)", 1).due("stick(48, 0, 50)", 1).due("turn(1)", 2);
        Run.of(17, "ahead 0 .. 50).").table("x", 1, 4, 0).tell("engine(0, 0, 1)")
                .refused("stick(0, -1, 1)", "stick(0, 51, 1)", "stick(0, LEAST, 1)", "stick(0, GREATEST, 1)")
                .due("stick(0, 0, 1)", 1).due("stick(0, 50, 1)", 1).due("turn(1)", 1).due("turn(49)", 50).due("turn(1)", 50)
                .due("turn(1)", 51);
        Run y = Run.of(17, "(at most 12 were told since it was SET;").table("x", 1, 4, 0).tell("engine(0, 0, 1)")
                .refused("stick(9, 0, 1)", "stick(0, 0, 0)");
        for (int i = 0; i < 12; i++) {
            y.due("stick(" + (i == 11 ? 0 : 48) + ", 0, 1)", 1);
        }
        y.refused("stick(0, 0, 1)", "stick(1, 5, 5)", "stick(40, 50, 50)").due("turn(1)", 1).refused("stick(0, 0, 1)").due("turn(1)", 2);
        y.refused("engine(0, 4, 1)", "stick(0, 0, 1)").due("engine(0, 0, 1)", 18).due("turn(1)", 2).due("stick(0, 0, 1)", 1)
                .due("turn(1)", 2);
        for (int i = 0; i < 11; i++) {
            y.due("stick(0, 0, 1)", 1);
        }
        y.refused("stick(0, 0, 1)");
    }

    private static void promise17Sticking() {
        String words = "A WHEEL that STICKS keeps its digit, and gives no carry on; (what came to it is lost).";
        Run.of(17, words).table("5*x", 1, 4, 0).tell("engine(0, 0, 1)", "stick(0, 0, 2)").due("turn(1)", 5).due("turn(1)", 5)
                .due("turn(1)", 10);
        Run.of(17, words).table("5*x", 1, 4, 0).tell("engine(0, 0, 1)", "stick(1, 0, 1)").due("turn(1)", 0).due("turn(1)", 5)
                .due("turn(1)", 10);
        Run.of(17, words).table("91*x", 1, 4, 0).tell("engine(0, 0, 1)", "stick(1, 0, 1)").due("turn(1)", 92).due("turn(1)", 183);
        Run.of(17, words).table("99*x", 1, 4, 0).tell("engine(0, 0, 1)", "stick(0, 0, 1)").due("turn(1)", 189).due("turn(1)", 288);
        columns(Run.of(17, words).table("x*x", 0, 4, 0).tell("engine(0, 0, 2)", "stick(10, 0, 1)", "turn(1)"), 1, 1, 2, 0, 0);
        columns(Run.of(17, words).table("x*x*x*x", 0, 6, 0).tell("engine(0, 0, 4)", "stick(20, 0, 1)", "stick(31, 0, 1)", "stick(40, 0, 1)",
                "turn(1)"), 1, 15, 44, 30, 24);
        everyWheel(words);
        Run bell = Run.of(17, words).table("0-x", 1, 4, 0).tell("engine(0, 0, 1)", "stick(8, 0, 1)").due("turn(1)", -2).due("column(5)", 0)
                .due("turn(1)", -3).due("column(5)", 1);
        bell.tell("stick(7, 0, 1)").due("turn(1)", -100000004).due("column(5)", 2);
    }

    /** 111111111 is added to 0 in each of columns 0 to 3; a wheel that sticks lacks its 1. */
    private static void everyWheel(String words) {
        int unit = 1;
        for (int wheel = 0; wheel < 9; wheel++) {
            for (int column = 0; column < 4; column++) {
                Run x = Run.of(17, words).table("if x=" + (column + 1) + " then 111111*1000+111 else 0", 0, 6, 0)
                .tell("engine(0, 0, " + (column + 1) + ")");
                x.due("column(" + column + ")", 0).due("column(" + (column + 1) + ")", 111111111)
                .due("stick(" + (column * 10 + wheel) + ", 0, 1)", 1).tell("turn(1)");
                x.due("column(" + column + ")", 111111111 - unit).due("column(" + (column + 1) + ")", 111111111).tell("turn(1)")
                .due("column(" + column + ")", 222222222 - unit);
            }
            unit *= 10;
        }
    }

    private static void promise18() {
        Run.of(18, "n TURNS (0 .. 60): SHOWN").table("x", 1, 4, 0).due("turn(0)", 0).tell("engine(0, 0, 1)").due("turn(0)", 1)
                .due("column(6)", 0).due("turn(1)", 2)
                .due("turn(60)", 62).due("turn(60)", 122).due("column(6)", 121);
        Run.of(18, "VOID for another n.").refused("turn(-1)", "turn(61)").table("x", 1, 4, 0).tell("engine(0, 0, 1)", "turn(1)")
                .refused("turn(-1)", "turn(61)", "turn(LEAST)", "turn(GREATEST)").due("column(6)", 1).due("turn(60)", 62);
        Run x = Run.of(18, "SHOWN is COLUMN 0, above 499999999 less 1000000000.").table("499999*1000+998+x", 0, 4, 0).table("x-2", 0, 4, 0);
        x.tell("engine(0, 0, 1)").due("turn(0)", 499999998).due("turn(1)", 499999999).due("turn(1)", -500000000).due("column(0)", 500000000)
                .due("turn(1)", -499999999);
        x.tell("engine(1, 0, 1)").due("turn(0)", -2).due("turn(1)", -1).due("turn(1)", 0).due("turn(1)", 1);
    }

    private static void promise18Turns() {
        Run x = Run.of(18, "A TURN: for k from 0 to 3, COLUMN k + 1 (as it was ahead of the TURN) is added to COLUMN k,")
                .table("x*x*x*x", 0, 6, 0).tell("engine(0, 0, 4)");
        columns(x.due("turn(1)", 1), 1, 15, 50, 60, 24, 0, 1);
        columns(x.due("turn(1)", 16), 16, 65, 110, 84, 24, 0, 2);
        columns(x.due("turn(8)", 10000), 10000, 4641, 1454, 276, 24, 0, 10);
        columns(Run.of(18, "digit by digit from WHEEL 0 on, with carries.").table("1+x*(999*1000+999)", 999, 4, 0)
                .tell("engine(0, 0, 1)", "turn(1)"), 999999001, 999999, 0, 0, 0, 0, 1);
        columns(Run.of(18, "digit by digit from WHEEL 0 on, with carries.").table("x-1", 0, 4, 0)
                .tell("engine(0, 0, 1)", "turn(1)"), 0, 1, 0, 0, 0, 1, 1);
        Run bell = Run.of(18, "A carry out of WHEEL 8 rings the BELL (each counts one).").table(FALLING, 0, 4, 0).table("x-2", 0, 4, 0)
                .tell("engine(0, 0, 2)");
        columns(bell, 999999999, 999999999, 999999999, 0, 0, 0, 0);
        columns(bell.tell("turn(1)"), 999999998, 999999998, 999999999, 0, 0, 2, 1);
        columns(bell.tell("turn(2)"), 999999993, 999999996, 999999999, 0, 0, 6, 3);
        columns(bell.tell("engine(1, 0, 1)", "turn(1)"), 999999999, 1, 0, 0, 0, 0, 1);
        columns(bell.tell("turn(1)"), 0, 1, 0, 0, 0, 1, 2);
        columns(bell.tell("turn(5)"), 5, 1, 0, 0, 0, 1, 7);
    }

    private static void promise19() {
        columns(Run.of(19, "COLUMN k (0 .. 4),").table("x*x*x*x", 0, 6, 0).tell("engine(0, 1, 4)"), 1, 15, 50, 60, 24);
        Run.of(19, "5 how often the BELL rang since it was SET,").table("x-1", 0, 4, 0).due("column(5)", 0)
                .tell("engine(0, 0, 1)", "turn(1)").due("column(5)", 1)
                .refused("engine(0, 4, 1)").due("column(5)", 1).tell("engine(0, 0, 1)").due("column(5)", 0).tell("turn(2)")
                .due("column(5)", 1);
        Run.of(19, "6 TURNS since;").table("x", 0, 4, 0).due("column(6)", 0).tell("engine(0, 0, 1)", "turn(0)").due("column(6)", 0)
                .tell("turn(60)", "turn(3)").due("column(6)", 63)
                .refused("turn(61)", "engine(0, 4, 1)").due("column(6)", 63).tell("engine(0, 0, 1)").due("column(6)", 0);
        Run.of(19, "NONE for others.").table("x", 1, 4, 0).tell("engine(0, 0, 1)")
                .refused("column(-1)", "column(7)", "column(LEAST)", "column(GREATEST)").due("column(0)", 1).due("column(6)", 0);
    }

    private static void promise20() {
        Run.of(20, "The least cost of SETTINGS").table("x*x", 0, 30, 0).due("settings(0, 0)", 51);
        Run.of(20, "NONE if there is no such TABLE, or e can't be.").refused("settings(0, 0)").table("x", 0, 4, 0).due("settings(0, 0)", 21)
                .refused("settings(1, 0)", "settings(-1, 0)", "settings(LEAST, 0)", "settings(GREATEST, 0)", "settings(0, -1)",
                        "settings(0, 100)", "settings(0, LEAST)", "settings(0, GREATEST)")
                .due("settings(0, 99)", 21);
        Run.of(20, "SETTINGS of a TABLE with a bound e (0 .. 99):").table("if x=3 then 99 else 0", 0, 4, 0)
                .table("if x=3 then 100 else 0", 0, 4, 0)
                .due("settings(0, 0)", 29).due("settings(0, 98)", 29).due("settings(0, 99)", 21).due("settings(1, 99)", 29);
        Run.of(20, "ENTRIES that aren't NONE are each worked once: by hand, 30 each,").table("1/0", 0, 30, 0)
                .table("if cut(x/2)*2=x then x else 1/0", 0, 30, 0).table("if x=0 then 1 else 1/0", 0, 4, 0)
                .due("settings(0, 0)", 0).due("settings(1, 99)", 450).due("settings(2, 0)", 30);
    }

    private static void promise20Runs() {
        Run.of(20, "or by runs: from an ENTRY i on, SET with D (1 .. 4), up to an ENTRY j, i + D at least,")
                .table("if x=1 then 1/0 else x", 0, 4, 0).table("if x=2 then 1/0 else x*x", 0, 6, 0)
                .table("x*x*x*x", 0, 5, 0).table("x*x*x*x*x", 0, 6, 0).due("settings(0, 0)", 30 + 18 + 1)
                .due("settings(1, 0)", 18 + 1 + 22 + 2).due("settings(2, 0)", 30 + 4)
                .due("settings(3, 0)", 18 + 1 + 26 + 3);
        Run.of(20, "or by runs: from an ENTRY i on, SET with D (1 .. 4), up to an ENTRY j, i + D at least,")
                .table("if x<2 then x*1000*500000 else 1/0", 0, 4, 0).due("settings(0, 99)", 60);
        Run.of(20, "no ENTRY from i to j being NONE,").table("if x=3 then 1/0 else x", 0, 7, 0).table("if x=6 then 1/0 else x", 0, 7, 0)
                .table("if x=0 then 1/0 else x", 0, 7, 0)
                .due("settings(0, 99)", 18 + 2 + 18 + 2).due("settings(1, 0)", 18 + 5).due("settings(2, 0)", 18 + 5);
        Run e = Run.of(20, "each being SHOWN (no WHEEL sticking) within e of TRUE;").table("if x=3 then 5 else 0", 0, 4, 0)
                .table("if x=3 then 0-5 else 0", 0, 4, 0).table("x*x", 0, 5, 0);
        e.due("settings(0, 4)", 29).due("settings(0, 5)", 21).due("settings(1, 4)", 29).due("settings(1, 5)", 21);
        e.due("settings(2, 11)", 22 + 4).due("settings(2, 12)", 18 + 4);
        e.tell("engine(0, 0, 1)", "stick(0, 0, 50)", "stick(10, 0, 50)").due("settings(2, 0)", 22 + 4).due("settings(0, 5)", 21);
        Run.of(20, "a run costs its setting and 1 for each of its j - i TURNS.").table("7", 0, 4, 0).table("7", 0, 30, 0)
                .table("x*x", 0, 4, 0).table("x*x*x", 0, 4, 0)
                .due("settings(0, 0)", 18 + 3).due("settings(1, 0)", 18 + 29).due("settings(2, 0)", 22 + 3).due("settings(3, 0)", 26 + 3);
        Run.of(20, "The least cost of all.").table("if x<4 then x else 1000+x*3", 0, 8, 0)
                .table("if x<3 then x*x else if x<6 then 500-x else 7*x", 0, 9, 0)
                .due("settings(0, 0)", 18 + 3 + 18 + 3).due("settings(1, 0)", 30 + 4 + 26 + 3);
    }

    private static void promise20Shown() {
        Run.of(20, "each being SHOWN (no WHEEL sticking) within e of TRUE;").table("500000*1000", 0, 4, 0).table("499999*1000+999", 0, 4, 0)
                .table("0-500000*1000", 0, 4, 0).table("0-500000*1000-1", 0, 4, 0)
                .due("settings(0, 99)", 120).due("settings(1, 0)", 21).due("settings(2, 0)", 21).due("settings(3, 99)", 120);
        Run.of(20, "each being SHOWN (no WHEEL sticking) within e of TRUE;").table("499999*1000+998+x", 0, 5, 0)
                .due("settings(0, 0)", 18 + 1 + 90);
    }
}
