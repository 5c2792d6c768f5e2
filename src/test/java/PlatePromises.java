/** Promises 28 to 40 with part 5 of the document: plates, errata, rivals' tables, leads and counts. */
final class PlatePromises {
    private static final int NONE = TableHouse.NONE;

    private PlatePromises() {
    }

    static void all() {
        promise28();
        promise29();
        promise30();
        promise30Wear();
        promise31();
        promise32();
        promise32Digits();
        promise33();
        promise34();
        promise35();
        promise36();
        promise37();
        promise38();
        promise38Hundredth();
        promise39();
        promise40();
        refused();
    }

    private static void promise28() {
        Run.of(28, "A TABLE is SET: how many FIGURES").table("x", 0, 4, 0).table("1/x", -2, 30, 0).hands(2).agree(0, 0, 3).agree(1, 0, 29)
                .due("set(0)", 4).due("set(1)", 29);
        Run.of(28, "NONE if there is none such, it is so, or not all are AGREED.").refused("set(0)").table("x", 0, 4, 0).hands(2)
                .refused("set(0)").agree(0, 0, 2).refused("set(0)")
                .tell("work(0, 0, 0, 3)").refused("set(0)").tell("work(1, 0, 0, 3)")
                .refused("set(0)", "set(1)", "set(-1)", "set(LEAST)", "set(GREATEST)")
                .tell("work(1, 1, 0, 3)").due("set(0)", 4).refused("set(0)", "set(1)");
        Run.of(28, "NONE if there is none such, it is so, or not all are AGREED.").table("x", 0, 4, 0).hands(2).agree(0, 1, 3)
                .refused("set(0)").agree(0, 0, 0).due("set(0)", 4);
        Run.of(28, "PLATES: a TABLE whose ENTRIES that aren't NONE are all AGREED is SET in type (once; FIGURES stand).")
                .table("1/x", 0, 4, 0).table("1/0", 0, 4, 0).hands(3).agree(0, 1, 3)
                .due("set(0)", 3).refused("set(0)", "work(0, 0, 0, 0)", "work(2, 2, 0, 1)").due("figure(0, 1)", 1).tell("habit(0, 0, 12)")
                .due("figure(0, 1)", 1).due("read(0, 1)", 1)
                .due("set(1)", 0).refused("set(1)", "read(1, 0)").due("print(1, 1)", 1);
    }

    private static void promise29() {
        Run.of(29, "HARD: true").plate("x", 3, 4).due("hard(100)", 1).tell("print(0, 99)").due("lead(0, 0, 6)", 0).tell("print(0, 1)")
                .due("lead(0, 0, 6)", 1)
                .due("hard(5000)", 1).tell("print(0, 4999)").due("lead(0, 0, 6)", 1).tell("print(0, 1)").due("lead(0, 0, 6)", 2);
        Run.of(29, "false if it isn't 100 .. 5000.").plate("x", 3, 4)
                .refused("hard(99)", "hard(5001)", "hard(0)", "hard(-1)", "hard(LEAST)", "hard(GREATEST)")
                .tell("print(0, 999)").due("lead(0, 0, 6)", 0).tell("print(0, 1)").due("lead(0, 0, 6)", 1).due("hard(100)", 1)
                .refused("hard(99)", "hard(5001)").tell("print(0, 100)").due("lead(0, 0, 6)", 2);
    }

    private static void promise30() {
        Run.of(30, "PRINTED: how many in all").plate("x", 3, 4).due("print(0, 1)", 1).due("print(0, 5000)", 5001).due("print(0, 7)", 5008)
                .due("count(30)", 5008);
        Run.of(30, "NONE if there is no such SET TABLE, or it can't be.").refused("print(0, 1)").table("x", 3, 4, 0).hands(2).agree(0, 0, 3)
                .refused("print(0, 1)").tell("set(0)").due("print(0, 1)", 1)
                .refused("print(1, 1)", "print(-1, 1)", "print(LEAST, 1)", "print(0, 0)", "print(0, -1)", "print(0, 5001)",
                        "print(0, LEAST)", "print(0, GREATEST)").due("print(0, 5000)", 5001);
        Run x = Run.of(30, "PRINTED are so many copies (1 .. 5000) at a time, 60000 in all of a TABLE.").plate("x", 3, 4)
                .table("x", 3, 4, 0).agree(1, 0, 3).tell("set(1)");
        for (int i = 1; i < 12; i++) {
            x.due("print(0, 5000)", 5000 * i);
        }
        x.due("print(0, 4999)", 59999).refused("print(0, 2)", "print(0, 5000)").due("print(0, 1)", 60000)
                .refused("print(0, 1)", "print(0, 5000)").due("count(30)", 60000).due("print(1, 5000)", 5000);
        x.due("lead(0, 0, 6)", 60).due("lead(1, 0, 6)", 5);
    }

    private static void promise30Wear() {
        String words = "Copies are counted one by one: as the count is HARD (1000 at first) or more, all digits of the TABLE are worn by one step, and the count is 0.";
        Run.of(30, words).plate("x", 3, 4).table("x", 3, 4, 0).agree(1, 0, 3).tell("set(1)", "print(0, 999)").due("lead(0, 0, 6)", 0)
                .tell("print(0, 1)").due("lead(0, 0, 6)", 1).due("lead(0, 3, 6)", 1)
                .due("lead(1, 0, 6)", 0).tell("print(0, 999)").due("lead(0, 0, 6)", 1).tell("print(0, 1)").due("lead(0, 0, 6)", 2)
                .tell("print(0, 5000)").due("lead(0, 0, 6)", 7)
                .tell("print(1, 1000)").due("lead(1, 0, 6)", 1).due("lead(0, 0, 6)", 7);
        Run.of(30, words).plate("x", 3, 4).tell("print(0, 500)", "hard(100)").due("lead(0, 0, 6)", 0).tell("print(0, 1)")
                .due("lead(0, 0, 6)", 1).tell("print(0, 99)").due("lead(0, 0, 6)", 1)
                .tell("print(0, 1)").due("lead(0, 0, 6)", 2).tell("print(0, 250)").due("lead(0, 0, 6)", 4).tell("hard(150)", "print(0, 99)")
                .due("lead(0, 0, 6)", 4).tell("print(0, 1)").due("lead(0, 0, 6)", 5);
        Run.of(30, words).plate("x", 3, 4).tell("print(0, 100)", "hard(101)").due("lead(0, 0, 6)", 0).tell("print(0, 1)")
                .due("lead(0, 0, 6)", 1).tell("print(0, 101)").due("lead(0, 0, 6)", 2)
                .tell("print(0, 5000)").due("lead(0, 0, 6)", 51).tell("print(0, 49)").due("lead(0, 0, 6)", 51).tell("print(0, 1)")
                .due("lead(0, 0, 6)", 52);
        Run.of(30, words).plate("x", 3, 4).tell("hard(100)", "print(0, 5000)").due("lead(0, 1, 6)", 50).tell("hard(5000)", "print(0, 4999)")
                .due("lead(0, 1, 6)", 50).tell("print(0, 1)").due("lead(0, 1, 6)", 51);
    }

    private static void promise31() {
        Run.of(31, "A FIGURE is MENDED: true").plate("x", 33, 4).due("mend(0, 0)", 1).tell("print(0, 4000)").due("read(0, 0)", 88)
                .due("mend(0, 0)", 1).due("read(0, 0)", 33).due("read(0, 1)", 84);
        Run.of(31, "A FIGURE may be MENDED: its digits have worn no step.").plate("x", 33, 4).tell("print(0, 3999)", "mend(0, 1)")
                .due("lead(0, 1, 6)", 0).due("lead(0, 0, 6)", 3).tell("print(0, 1)")
                .due("lead(0, 1, 6)", 1).due("lead(0, 0, 6)", 4).due("read(0, 0)", 88).due("read(0, 1)", 34).tell("print(0, 3000)")
                .due("read(0, 1)", 84).due("count(30)", 7000);
        Run.of(31, "false if there is none such SET.").refused("mend(0, 0)").table("1/(x-1)", 0, 4, 0).hands(2).agree(0, 0, 3)
                .refused("mend(0, 0)").tell("set(0)", "print(0, 2000)")
                .refused("mend(0, 1)", "mend(0, 4)", "mend(0, -1)", "mend(1, 0)", "mend(-1, 0)", "mend(0, LEAST)", "mend(0, GREATEST)",
                        "mend(LEAST, 0)").due("lead(0, 0, 6)", 2).due("mend(0, 3)", 1).due("lead(0, 3, 6)", 0);
    }

    private static void promise32() {
        Run.of(32, "READ;").plate("x", 33, 4).due("read(0, 0)", 33).due("read(0, 3)", 36);
        Run.of(32, "READ of an ENTRY: its FIGURE as it can be read NOW.").plate("x", 33, 4).tell("print(0, 4000)").due("read(0, 0)", 88)
                .due("figure(0, 0)", 33).due("known(0, 0, 0)", 33).due("exact(0, 0)", 33)
                .tell("erratum(0, 0, 33, 44)").due("read(0, 0)", 88).tell("mend(0, 0)").due("read(0, 0)", 33);
        Run.of(32, "READ of an ENTRY: its FIGURE as it can be read NOW.").table("x", 5, 4, 0).hands(2)
                .tell("habit(0, 0, 53)", "habit(1, 1, 53)").agree(0, 0, 3).tell("set(0)").due("read(0, 0)", 3)
                .tell("print(0, 4000)").due("read(0, 0)", 8);
        Run.of(32, "VOID if there is none such SET.").refused("read(0, 0)").table("1/(x-1)", 0, 4, 0).hands(2).agree(0, 0, 3)
                .refused("read(0, 0)").tell("set(0)").due("read(0, 0)", -1).due("read(0, 3)", 1)
                .refused("read(0, 1)", "read(0, 4)", "read(0, -1)", "read(1, 0)", "read(-1, 0)", "read(0, LEAST)", "read(0, GREATEST)",
                        "read(LEAST, 0)");
    }

    /** Entries 0, 1 and 2 are 1356680, -1356680 and 249705. */
    private static Run digitsAt(String words, int step) {
        Run x = Run.of(32, words).table("if x=0 then 1000*1356+680 else if x=1 then 0-1000*1356-680 else 249705", 0, 4, 0).hands(2)
                .agree(0, 0, 3).tell("set(0)");
        for (int i = 0; i < step; i++) {
            x.tell("print(0, 1000)");
        }
        return x.due("lead(0, 0, 6)", step);
    }

    private static void promise32Digits() {
        digitsAt("A digit 3 is read 8 from step 4 on,", 0).due("read(0, 0)", 1356680).due("read(0, 1)", -1356680);
        digitsAt("A digit 3 is read 8 from step 4 on,", 3).due("read(0, 0)", 1356680).due("read(0, 1)", -1356680);
        digitsAt("A digit 3 is read 8 from step 4 on,", 4).due("read(0, 0)", 1856680).due("read(0, 1)", -1856680);
        digitsAt("1 is read 7 from 5 on,", 5).due("read(0, 0)", 7856680).due("read(0, 1)", -7856680);
        digitsAt("6 is read 5 from 6 on;", 6).due("read(0, 0)", 7855580).due("read(0, 1)", -7855580);
        digitsAt("8 is read 3 from 7 on,", 7).due("read(0, 0)", 7855530).due("read(0, 1)", -7855530);
        digitsAt("8 is read 3 from 7 on,", 20).due("read(0, 0)", 7855530).due("read(0, 1)", -7855530);
        digitsAt("others stay.", 60).due("read(0, 2)", 249705).due("read(0, 3)", 249705);
        Run.of(32, "others stay.").plate("0", 0, 4).tell("print(0, 5000)", "print(0, 5000)").due("read(0, 0)", 0);
        Run wide = Run.of(32, "A digit 3 is read 8 from step 4 on,").plate("333333*1000+333", 0, 4).tell("print(0, 4000)")
                .due("read(0, 0)", 888888888);
        wide.tell("print(0, 3000)").due("read(0, 0)", 888888888);
        Run.of(32, "8 is read 3 from 7 on,").plate("0-888888*1000-888", 0, 4).tell("print(0, 5000)", "print(0, 1999)")
                .due("read(0, 0)", -888888888).tell("print(0, 1)").due("read(0, 0)", -333333333);
    }

    private static void promise33() {
        Run.of(33, "An ERRATUM: its number").plate("x", 10, 4).due("erratum(0, 0, 10, 11)", 0).due("erratum(0, 3, 5, 5)", 1)
                .due("count(6)", 2).due("known(0, 0, 0)", 11);
        Run.of(33, "NONE if there is none such SET,").refused("erratum(0, 0, 1, 2)").table("1/(x-1)", 0, 4, 0).hands(2).agree(0, 0, 3)
                .refused("erratum(0, 0, -1, 2)").tell("set(0)")
                .refused("erratum(0, 1, 1, 2)", "erratum(0, 4, 1, 2)", "erratum(0, -1, 1, 2)", "erratum(1, 0, 1, 2)",
                        "erratum(-1, 0, 1, 2)", "erratum(0, LEAST, 1, 2)", "erratum(0, GREATEST, 1, 2)", "erratum(LEAST, 0, 1, 2)")
                .due("erratum(0, 0, -1, 2)", 0).due("erratum(0, 3, 1, 2)", 1);
        Run.of(33, "is or should can't be (-999999999 .. 999999999),").plate("x", 10, 4)
                .refused("erratum(0, 0, 1000000000, 1)", "erratum(0, 0, -1000000000, 1)", "erratum(0, 0, VOID, 1)",
                        "erratum(0, 0, GREATEST, 1)")
                .refused("erratum(0, 0, 10, 1000000000)", "erratum(0, 0, 10, -1000000000)", "erratum(0, 0, 10, VOID)",
                        "erratum(0, 0, 10, GREATEST)")
                .due("erratum(0, 0, 10, 999999999)", 0).due("erratum(0, 0, 999999999, -999999999)", 1)
                .due("erratum(0, 0, -999999999, 5)", 2).due("known(0, 0, 0)", 5);
        Run x = Run.of(33, "or 40 came.").plate("x", 10, 4);
        for (int i = 0; i < 40; i++) {
            x.due("erratum(0, " + i % 4 + ", 10, " + (i < 36 ? 10 : 11) + ")", i);
        }
        x.refused("erratum(0, 1, 11, 12)", "erratum(0, 0, 11, 12)").due("count(6)", 40).due("known(0, 0, 999)", 11).due("misses(39)", 1);
        Document.quote(33, "ERRATA (at most 40) of a SET TABLE: an ENTRY, what it is, what it should be;");
    }

    private static void promise34() {
        Run.of(34, "Whether an ERRATUM MISSES: 1 or 0").plate("x", 10, 4).tell("erratum(0, 0, 10, 11)", "erratum(0, 0, 10, 12)")
                .due("misses(0)", 0).due("misses(1)", 1);
        Run.of(34, "applied in order to FIGURES: where something else stands as its turn comes, it MISSES.").plate("x", 10, 4)
                .table("x", 10, 4, 0).agree(1, 0, 3).tell("set(1)")
                .tell("erratum(0, 0, 11, 12)", "erratum(0, 0, 10, 11)", "erratum(0, 0, 11, 12)", "erratum(0, 0, 10, 13)",
                        "erratum(0, 0, 12, 10)", "erratum(0, 0, 10, 10)", "erratum(0, 0, 10, 14)")
                .tell("erratum(0, 1, 10, 20)", "erratum(0, 1, 11, 21)", "erratum(1, 0, 14, 15)", "erratum(1, 0, 10, 15)")
                .due("misses(0)", 1).due("misses(1)", 0).due("misses(2)", 0).due("misses(3)", 1).due("misses(4)", 0).due("misses(5)", 0)
                .due("misses(6)", 0).due("misses(7)", 1).due("misses(8)", 0)
                .due("misses(9)", 1).due("misses(10)", 0).due("known(0, 0, 0)", 14).due("known(0, 1, 0)", 21).due("known(1, 0, 0)", 15)
                .due("figure(0, 0)", 10);
        Run.of(34, "applied in order to FIGURES: where something else stands as its turn comes, it MISSES.").plate("x", 33, 4)
                .tell("print(0, 5000)").due("read(0, 0)", 88)
                .tell("erratum(0, 0, 88, 1)", "erratum(0, 0, 33, 2)").due("misses(0)", 1).due("misses(1)", 0);
        Run.of(34, "NONE if there is none such.").refused("misses(0)").plate("x", 10, 4).refused("misses(0)").tell("erratum(0, 0, 10, 11)")
                .due("misses(0)", 0)
                .refused("misses(1)", "misses(-1)", "misses(40)", "misses(LEAST)", "misses(GREATEST)");
    }

    private static void promise35() {
        Run.of(35, "A FIGURE as KNOWN on a DAY").plate("x", 10, 4).tell("go(5)").due("known(0, 0, 0)", 10).due("known(0, 0, 5)", 10)
                .due("known(0, 3, 999)", 13);
        Run.of(35, "KNOWN on a DAY: with ERRATA told up to it.").plate("x", 10, 4)
                .tell("go(5)", "erratum(0, 0, 10, 11)", "erratum(0, 0, 10, 99)", "go(1)", "erratum(0, 0, 11, 12)", "go(100)",
                "erratum(0, 0, 12, 13)")
                .due("known(0, 0, 0)", 10).due("known(0, 0, 4)", 10).due("known(0, 0, 5)", 11).due("known(0, 0, 6)", 12)
                .due("known(0, 0, 105)", 12).due("known(0, 0, 106)", 13).due("known(0, 0, 999)", 13)
                .due("known(0, 1, 999)", 11);
        Run last = Run.of(35, "KNOWN on a DAY: with ERRATA told up to it.").plate("x", 10, 4);
        for (int i = 0; i < 10; i++) {
            last.tell("go(100)");
        }
        last.tell("erratum(0, 0, 10, 11)").due("count(0)", 999).due("known(0, 0, 998)", 10).due("known(0, 0, 999)", 11);
        Run.of(35, "VOID if there is none such SET, or DAY.").refused("known(0, 0, 0)").table("1/(x-1)", 0, 4, 0).hands(2).agree(0, 0, 3)
                .refused("known(0, 0, 0)").tell("set(0)").due("known(0, 0, 0)", -1)
                .refused("known(0, 1, 0)", "known(0, 4, 0)", "known(0, -1, 0)", "known(1, 0, 0)", "known(-1, 0, 0)", "known(0, LEAST, 0)",
                        "known(0, GREATEST, 0)", "known(LEAST, 0, 0)")
                .refused("known(0, 0, -1)", "known(0, 0, 1000)", "known(0, 0, LEAST)", "known(0, 0, GREATEST)").due("known(0, 3, 999)", 1);
    }

    /** Table 0 is x from 0 on; so many of its first entries are FALSE: their hundreds are 5. */
    private static Run falseOnes(Run x, int entries, int falseOnes) {
        x.table("x", 0, entries, 0).hands(4).tell("habit(2, 0, 205)", "habit(3, 1, 205)");
        for (int e = 0; e < entries; e++) {
            int first = e < falseOnes ? 2 : 0;
            x.tell("work(" + first + ", 0, 0, " + e + ")", "work(" + (first + 1) + ", 1, 0, " + e + ")");
        }
        return x.due("set(0)", entries).due("count(20)", falseOnes);
    }

    /** The rival has entries from .. to as they are TRUE, and more than that. */
    private static Run rivals(Run x, int from, int to, int more) {
        for (int e = from; e <= to; e++) {
            x.due("rival(0, " + e + ", " + (e + more) + ")", 1);
        }
        return x;
    }

    private static void promise36() {
        falseOnes(Run.of(36, "A RIVAL's number for an ENTRY (VOID: none): true"), 6, 2).due("rival(0, 0, 500)", 1).due("shared(0)", 1)
                .due("rival(0, 0, VOID)", 1).due("shared(0)", 0)
                .due("rival(0, 0, VOID)", 1).due("rival(0, 1, 501)", 1).due("shared(0)", 1).due("rival(0, 0, 500)", 1).due("shared(0)", 2);
        Run.of(36, "false if there is no such SET TABLE or ENTRY, or it can't be.").refused("rival(0, 0, 1)").table("1/(x-1)", 0, 4, 0)
                .hands(2).agree(0, 0, 3).refused("rival(0, 0, 1)", "rival(0, 0, VOID)").tell("set(0)")
                .refused("rival(0, 4, 1)", "rival(0, -1, 1)", "rival(1, 0, 1)", "rival(-1, 0, 1)", "rival(0, LEAST, 1)",
                        "rival(0, GREATEST, 1)", "rival(LEAST, 0, 1)", "rival(0, 4, VOID)", "rival(1, 0, VOID)")
                .refused("rival(0, 0, 1000000000)", "rival(0, 0, -1000000000)", "rival(0, 0, GREATEST)", "rival(0, 0, -2147483647)")
                .due("rival(0, 0, 999999999)", 1).due("rival(0, 3, -999999999)", 1).due("rival(0, 1, 7)", 1);
        falseOnes(Run.of(36, "A RIVAL's table: numbers for ENTRIES of a SET TABLE (or none)."), 4, 1).due("rival(0, 0, 500)", 1)
                .refused("rival(0, 0, 1000000000)").due("shared(0)", 1).due("rival(0, 0, 501)", 1).due("shared(0)", 0);
    }

    private static void promise37() {
        falseOnes(Run.of(37, "SHARED;"), 8, 3).due("shared(0)", 0).due("rival(0, 2, 502)", 1).due("shared(0)", 1);
        falseOnes(Run.of(37, "SHARED: ENTRIES at which it has our FIGURE, that FIGURE being FALSE."), 8, 3)
                .tell("rival(0, 0, 500)", "rival(0, 1, 1)", "rival(0, 2, 501)", "rival(0, 3, 3)", "rival(0, 4, 504)")
                .due("shared(0)", 1).tell("rival(0, 1, 501)", "rival(0, 2, 502)").due("shared(0)", 3);
        falseOnes(Run.of(37, "SHARED: ENTRIES at which it has our FIGURE, that FIGURE being FALSE."), 4, 4).tell("rival(0, 3, 503)")
                .due("shared(0)", 1);
        Run.of(37, "NONE if there is no such SET TABLE.").refused("shared(0)").table("x", 0, 4, 0).hands(2).agree(0, 0, 3)
                .refused("shared(0)", "copied(0)").tell("set(0)").due("shared(0)", 0)
                .refused("shared(1)", "shared(-1)", "shared(LEAST)", "shared(GREATEST)");
        Run.of(37, "SHARED: ENTRIES at which it has our FIGURE, that FIGURE being FALSE.").table("1/0", 0, 4, 0)
                .tell("set(0)", "rival(0, 0, 5)").due("shared(0)", 0).due("copied(0)", 0);
    }

    private static void promise38() {
        Run.of(38, "COPIED;").plate("x", 0, 4).due("copied(0)", 0);
        Run.of(38, "NONE likewise.").refused("copied(0)").table("x", 0, 4, 0).hands(2).agree(0, 0, 3).refused("copied(0)").tell("set(0)")
                .due("copied(0)", 0)
                .refused("copied(1)", "copied(-1)", "copied(LEAST)", "copied(GREATEST)");
        String words = "Let n be the ENTRIES that the RIVAL has, f those of them at which it isn't TRUE, o those at which our FIGURE is FALSE:";
        rivals(rivals(falseOnes(Run.of(38, words), 30, 2), 0, 1, 500), 2, 29, 0).due("copied(0)", 1).tell("rival(0, 29, 0)")
                .due("copied(0)", 1).tell("rival(0, 28, 0)").due("copied(0)", 0);
        rivals(rivals(falseOnes(Run.of(38, words), 25, 2), 0, 1, 500), 2, 14, 0).due("copied(0)", 1).tell("rival(0, 14, VOID)")
                .due("copied(0)", 0).tell("rival(0, 20, 20)").due("copied(0)", 1);
        rivals(rivals(falseOnes(Run.of(38, words), 30, 4), 0, 1, 500), 4, 16, 0).due("copied(0)", 1).tell("rival(0, 2, 2)")
                .due("copied(0)", 0);
        rivals(rivals(falseOnes(Run.of(38, words), 20, 5), 0, 4, 400), 5, 19, 0).due("shared(0)", 0).due("copied(0)", 0);
        rivals(falseOnes(Run.of(38, words), 30, 15), 0, 29, 500).due("shared(0)", 15).due("copied(0)", 0);
        rivals(rivals(falseOnes(Run.of(38, words), 30, 15), 0, 14, 500), 15, 29, 0).due("copied(0)", 1);
    }

    private static void promise38Hundredth() {
        String words = "COPIED is 1, if of all heaps of f of n fewer than one of 100 have at least as many of the o as are SHARED; else 0.";
        rivals(rivals(falseOnes(Run.of(38, words), 25, 3), 0, 1, 500), 2, 24, 0).due("copied(0)", 0).tell("rival(0, 2, VOID)")
                .due("copied(0)", 1);
        rivals(rivals(falseOnes(Run.of(38, words), 26, 2), 0, 1, 500), 2, 24, 0).tell("rival(0, 24, 0)").due("copied(0)", 0)
                .tell("rival(0, 25, 25)").due("copied(0)", 1);
        rivals(rivals(falseOnes(Run.of(38, words), 30, 3), 0, 0, 500), 1, 29, 0).due("copied(0)", 0).tell("rival(0, 1, 501)")
                .due("copied(0)", 1);
        rivals(falseOnes(Run.of(38, words), 8, 1), 0, 0, 500).due("copied(0)", 0).tell("rival(0, 0, VOID)").due("copied(0)", 0);
        rivals(rivals(falseOnes(Run.of(38, words), 22, 4), 0, 2, 500), 3, 20, 0).tell("rival(0, 21, 0)").due("copied(0)", 1);
        rivals(rivals(falseOnes(Run.of(38, words), 22, 13), 0, 6, 500), 7, 21, 0).due("copied(0)", 0);
        rivals(rivals(falseOnes(Run.of(38, words), 24, 7), 0, 13, 500), 14, 23, 0).due("shared(0)", 7).due("copied(0)", 1)
                .tell("rival(0, 13, 13)", "rival(0, 6, 6)").due("copied(0)", 0);
    }

    private static void promise39() {
        Run.of(39, "Of an ENTRY: 0, 1 the first HAND and WAY, 2, 3 the second one's,").table("x", 10, 4, 0).hands(4)
                .tell("work(3, 2, 0, 1)").due("lead(0, 1, 0)", 3).due("lead(0, 1, 1)", 2)
                .refused("lead(0, 1, 2)", "lead(0, 1, 3)", "lead(0, 0, 0)", "lead(0, 0, 1)").tell("work(1, 0, 0, 1)")
                .due("lead(0, 1, 0)", 3).due("lead(0, 1, 1)", 2).due("lead(0, 1, 2)", 1).due("lead(0, 1, 3)", 0);
        Run.of(39, "LEAD of an ENTRY: the two HANDS and WAYS; the DAY on which it was AGREED.").table("x", 10, 4, 0).hands(8)
                .tell("go(7)", "work(7, 2, 0, 3)", "go(2)", "work(6, 1, 0, 3)", "go(1)")
                .due("lead(0, 3, 0)", 7).due("lead(0, 3, 1)", 2).due("lead(0, 3, 2)", 6).due("lead(0, 3, 3)", 1).due("lead(0, 3, 4)", 9);
        Run.of(39, "4 the DAY on which it was AGREED,").table("x", 10, 4, 0).hands(2).agree(0, 0, 0).due("lead(0, 0, 4)", 0)
                .tell("work(0, 0, 0, 1)").refused("lead(0, 1, 4)").tell("go(9)", "work(1, 0, 0, 1)").refused("lead(0, 1, 4)")
                .tell("go(9)", "work(1, 1, 0, 1)").due("lead(0, 1, 4)", 18);
        Run.of(39, "5 whether FALSE (1, 0; of an AGREED one),").table("x", 10, 4, 0).hands(2)
                .tell("habit(0, 0, 9)", "habit(1, 1, 9)", "work(0, 0, 0, 0)").refused("lead(0, 0, 5)").tell("work(1, 1, 0, 0)")
                .due("lead(0, 0, 5)", 1).tell("work(0, 0, 0, 1)", "work(1, 1, 0, 1)").due("lead(0, 1, 5)", 0)
                .tell("work(0, 0, 0, 2)", "work(1, 0, 0, 2)").refused("lead(0, 2, 5)");
        Run.of(39, "6 steps that its digits wore.").table("x", 10, 4, 0).hands(2).agree(0, 0, 3).refused("lead(0, 0, 6)").tell("set(0)")
                .due("lead(0, 0, 6)", 0).tell("print(0, 3000)").due("lead(0, 0, 6)", 3)
                .tell("mend(0, 0)").due("lead(0, 0, 6)", 0).due("lead(0, 1, 6)", 3);
        Run.of(39, "NONE for others, or if there is none such yet.").refused("lead(0, 0, 0)").plate("1/(x-1)", 0, 4).due("lead(0, 0, 0)", 0)
                .due("lead(0, 3, 6)", 0)
                .refused("lead(0, 0, 7)", "lead(0, 0, -1)", "lead(0, 0, LEAST)", "lead(0, 0, GREATEST)", "lead(0, 4, 0)", "lead(0, -1, 0)",
                        "lead(1, 0, 0)", "lead(-1, 0, 0)", "lead(0, LEAST, 0)", "lead(0, GREATEST, 6)", "lead(LEAST, 0, 0)")
                .refused("lead(0, 1, 0)", "lead(0, 1, 1)", "lead(0, 1, 2)", "lead(0, 1, 3)", "lead(0, 1, 4)", "lead(0, 1, 5)",
                        "lead(0, 1, 6)");
    }

    private static void promise40() {
        String words = "0 NOW, 1 SHEETS, 2 TABLES, 3 HANDS, 4 HABITS, 5 numbers of the ROW (GAPS, too), 6 ERRATA, 7 bytes of the TEXT;";
        Run x = Run.of(40, words).sheet("x").sheet("x").plate("x", 10, 4).hands(3)
                .tell("go(9)", "habit(0, 0, 12)", "habit(0, 0, 12)", "habit(0, 0, 12)", "habit(0, 0, 12)", "erratum(0, 0, 1, 2)",
                "erratum(0, 0, 1, 2)").row(1, 2, 3, 4, 5, 6).text("abcdefg");
        int[] want = {9, 3, 1, 5, 4, 6, 2, 7};
        for (int what = 0; what < want.length; what++) {
            x.due("count(" + what + ")", want[what]);
        }
        Run.of(40, words).table("1/x", 0, 6, 0).hands(2).agree(0, 0, 5).tell("lay(0, 0, 6)").due("count(5)", 6);
        Run y = falseOnes(Run.of(40, "10 and a TABLE: ENTRIES AGREED; 20 and a TABLE: FALSE ones; 30 and a TABLE: copies."), 6, 2);
        for (int t = 1; t < 5; t++) {
            y.refused("count(" + (10 + t) + ")", "count(" + (20 + t) + ")", "count(" + (30 + t) + ")").tell("table(0, 0, 1001, 40)")
                    .agree(t, 0, t - 2);
        }
        y.tell("print(0, 17)", "print(0, 5)");
        int[] agreed = {6, 0, 1, 2, 3};
        for (int t = 0; t < 5; t++) {
            y.due("count(" + (10 + t) + ")", agreed[t]).due("count(" + (20 + t) + ")", t == 0 ? 2 : 0)
                    .due("count(" + (30 + t) + ")", t == 0 ? 22 : 0);
        }
        y.tell("work(2, 0, 4, 3)", "work(3, 1, 4, 3)").due("count(24)", 1).due("count(14)", 4);
        Run z = Run.of(40, "NONE for others.").plate("x", 10, 4)
                .refused("count(-1)", "count(8)", "count(9)", "count(15)", "count(19)", "count(25)", "count(29)", "count(35)", "count(39)",
                "count(40)", "count(41)", "count(50)");
        z.refused("count(-10)", "count(-20)", "count(11)", "count(21)", "count(31)", "count(100)", "count(110)", "count(LEAST)",
                "count(GREATEST)").due("count(10)", 4);
    }

    /** A house in which all that can come came, so that each call that brings more is refused. */
    private static void refused() {
        Run x = Run.of(1, "What is refused changes nothing.");
        for (int i = 0; i < 10; i++) {
            x.sheet("x+" + i);
        }
        for (int t = 0; t < 5; t++) {
            x.tell("table(" + t + ", " + t + ", 1001, 40)");
        }
        x.hands(8).agree(0, 0, 3).agree(1, 0, 2).tell("set(0)", "engine(0, 0, 1)");
        for (int i = 0; i < 24; i++) {
            x.tell("habit(" + i % 8 + ", " + i % 3 + ", 12)");
        }
        for (int i = 0; i < 12; i++) {
            x.tell("stick(" + i % 9 + ", " + i + ", 2)", "print(0, 5000)");
        }
        for (int i = 0; i < 20; i++) {
            x.row(i * i);
        }
        for (int i = 0; i < 40; i++) {
            x.tell("erratum(0, " + i % 4 + ", " + i % 4 + ", " + i + ")");
        }
        x.text("x").due("count(1)", 10).due("count(2)", 5).due("count(3)", 8).due("count(4)", 24).due("count(5)", 20).due("count(6)", 40)
                .due("count(30)", 60000);
        x.refused("sheet()", "table(0, 0, 1001, 40)", "hand()", "habit(0, 0, 12)", "stick(0, 0, 1)", "row(1)", "print(0, 1)",
                "erratum(0, 0, 0, 1)", "set(0)", "set(1)", "work(0, 0, 0, 0)", "work(0, 2, 1, 0)", "end(2)", "go(101)");
    }
}
