/** Promises 7 to 15 with part 2 of the document: days, tables, hands and habits, what they write, figures, pairs. */
final class TablePromises {
    private static final int NONE = TableHouse.NONE;
    private static final int VOID = TableHouse.VOID;

    private TablePromises() {
    }

    static void all() {
        promise7();
        promise8();
        promise8Limits();
        promise9();
        promise10();
        promise11();
        promise12();
        promise13();
        promise13Anew();
        promise14();
        promise15();
        promise15Order();
    }

    private static void promise7() {
        Run x = Run.of(7, "NOW is n DAYS later (0 .. 100; 999 at most): NOW").due("go(0)", 0).due("go(1)", 1).due("go(99)", 100)
                .due("count(0)", 100);
        for (int day = 200; day <= 900; day += 100) {
            x.due("go(100)", day);
        }
        x.due("go(98)", 998).due("go(1)", 999).due("go(0)", 999).due("go(1)", 999).due("go(100)", 999).due("count(0)", 999);
        Run y = Run.of(7, "DAYS are 0 .. 999;");
        for (int i = 0; i < 9; i++) {
            y.tell("go(100)");
        }
        y.due("go(100)", 999).due("count(0)", 999);
        Run.of(7, "NONE for another n.").refused("go(-1)", "go(101)", "go(LEAST)", "go(GREATEST)").due("go(100)", 100)
                .refused("go(-1)", "go(-100)", "go(101)").due("count(0)", 100);
        Run.of(7, "NOW is one (0 at first).").due("count(0)", 0).due("go(0)", 0);
    }

    private static void promise8() {
        Run x = Run.of(8, "A TABLE: its number").sheet("x").sheet("x*x");
        x.due("table(0, 2, 1001, 40)", 0).due("count(2)", 1).due("table(1, 2, 1001, 50)", 1).due("count(2)", 2);
        x.due("exact(0, 3)", 5).due("exact(1, 3)", 25).due("exact(1, 4)", 36).refused("exact(0, 4)");
        Run five = Run.of(8, "TABLES have numbers as they come, at most 5:").sheet("x");
        for (int t = 0; t < 5; t++) {
            five.due("table(0, " + t + ", 1001, 40)", t);
        }
        five.refused("table(0, 5, 1001, 40)").due("count(2)", 5).due("exact(4, 0)", 4).refused("exact(5, 0)", "count(15)");
        Run.of(8, "NONE if it can't be, or 5 came.").table("x", 0, 4, 0).table("x+1", 0, 4, 0).table("x+2", 0, 4, 0).table("x+3", 0, 4, 0)
                .refused("table(0, 0, 1001, 39)").table("x+4", 0, 4, 0).refused("table(0, 0, 1001, 40)", "table(4, 0, 1001, 40)")
                .due("exact(4, 0)", 4);
        Run.of(8, "Steps are STEP * 1000 + PARTS; size is n * 10 + PLACES.").sheet("x").due("table(0, 7, 2003, 52)", 0)
                .due("exact(0, 0)", 233).due("exact(0, 1)", 300).due("exact(0, 2)", 367).due("exact(0, 4)", 500).refused("exact(0, 5)");
        Run.of(8, "x of ENTRY i is FIRST and i times STEP, together, by PARTS.").sheet("x").due("table(0, -1000, 100100, 301)", 0)
                .due("exact(0, 0)", -100).due("exact(0, 1)", -90).due("exact(0, 10)", 0).due("exact(0, 29)", 190)
                .due("table(0, 5, 3002, 41)", 1).due("exact(1, 0)", 25).due("exact(1, 1)", 40).due("exact(1, 3)", 70);
    }

    private static void promise8Limits() {
        Run.of(8, "a SHEET,").refused("table(0, 0, 1001, 40)").sheet("x").refused("table(1, 0, 1001, 40)", "table(-1, 0, 1001, 40)",
                "table(LEAST, 0, 1001, 40)", "table(GREATEST, 0, 1001, 40)").due("table(0, 0, 1001, 40)", 0);
        Run.of(8, "FIRST (-1000 .. 1000),").sheet("x").refused("table(0, -1001, 1001, 40)", "table(0, 1001, 1001, 40)",
                "table(0, LEAST, 1001, 40)", "table(0, GREATEST, 1001, 40)")
                .due("table(0, -1000, 1001, 40)", 0).due("table(0, 1000, 1001, 40)", 1).due("exact(0, 0)", -1000).due("exact(1, 3)", 1003);
        Run.of(8, "STEP (1 .. 100),").sheet("x").refused("table(0, 0, 1, 40)", "table(0, 0, 100, 40)", "table(0, 0, 101001, 40)",
                "table(0, 0, -1001, 40)",
                "table(0, 0, -999, 40)", "table(0, 0, 0, 40)", "table(0, 0, LEAST, 40)", "table(0, 0, GREATEST, 40)")
                .due("table(0, 0, 1001, 40)", 0).due("table(0, 0, 100001, 40)", 1).due("exact(1, 3)", 300);
        Run.of(8, "PARTS (1 .. 100),").sheet("x").refused("table(0, 0, 1000, 40)", "table(0, 0, 1101, 40)", "table(0, 0, 1999, 40)",
                "table(0, 0, 100101, 40)",
                "table(0, 0, 100000, 40)").due("table(0, 0, 1001, 40)", 0).due("table(0, 300, 100100, 40)", 1).due("exact(1, 0)", 3);
        Run.of(8, "n ENTRIES (4 .. 30),").sheet("x").refused("table(0, 0, 1001, 30)", "table(0, 0, 1001, 34)", "table(0, 0, 1001, 310)",
                "table(0, 0, 1001, 314)",
                "table(0, 0, 1001, 0)", "table(0, 0, 1001, 4)", "table(0, 0, 1001, -40)", "table(0, 0, 1001, LEAST)",
                        "table(0, 0, 1001, GREATEST)")
                .due("table(0, 0, 1001, 40)", 0).due("table(0, 0, 1001, 300)", 1).due("exact(0, 3)", 3).refused("exact(0, 4)")
                .due("exact(1, 29)", 29).refused("exact(1, 30)");
        Run.of(8, "PLACES (0 .. 4).").sheet("x").refused("table(0, 0, 1001, 45)", "table(0, 0, 1001, 49)", "table(0, 0, 1001, 305)",
                "table(0, 0, 1001, 39)",
                "table(0, 0, 1001, -39)").due("table(0, 1, 1001, 40)", 0).due("table(0, 1, 1001, 44)", 1).due("table(0, 1, 1001, 304)", 2)
                .due("exact(0, 0)", 1).due("exact(1, 0)", 10000).due("exact(2, 0)", 10000);
    }

    private static void promise9() {
        Run.of(9, "TRUE of an ENTRY").table("x*x", 3, 4, 1).due("exact(0, 0)", 90).due("exact(0, 3)", 360);
        Run.of(9,
                "TRUE of it is the whole number nearest to the function of x times 10 to the power of PLACES (of two the one farther from 0);")
                .sheet("x").tell("table(0, -6, 1004, 300)", "table(0, 49, 1100, 40)", "table(0, -51, 1100, 40)", "table(0, 1, 1003, 44)",
                        "table(0, 1, 1020, 41)")
                .due("exact(0, 0)", -2).due("exact(0, 1)", -1).due("exact(0, 2)", -1).due("exact(0, 3)", -1).due("exact(0, 4)", -1)
                .due("exact(0, 5)", 0)
                .due("exact(0, 6)", 0).due("exact(0, 7)", 0).due("exact(0, 8)", 1).due("exact(0, 9)", 1).due("exact(0, 11)", 1)
                .due("exact(0, 12)", 2)
                .due("exact(1, 0)", 0).due("exact(1, 1)", 1).due("exact(2, 0)", -1).due("exact(2, 1)", -1).due("exact(2, 2)", 0)
                .due("exact(3, 0)", 3333).due("exact(3, 1)", 6667).due("exact(4, 0)", 1).due("exact(4, 1)", 1).due("exact(4, 2)", 2);
        Run.of(9, "NONE, if that is NONE or beyond -999999999 .. 999999999.").table("999999*1000+998+x", 0, 4, 0)
                .table("-999999*1000-998-x", 0, 4, 0)
                .table("99999+x/10", 8, 4, 4)
                .due("exact(0, 0)", 999999998).due("exact(0, 1)", 999999999).refused("exact(0, 2)", "exact(0, 3)")
                .due("exact(1, 0)", -999999998).due("exact(1, 1)", -999999999).refused("exact(1, 2)", "exact(1, 3)")
                .due("exact(2, 0)", 999998000).due("exact(2, 1)", 999999000).refused("exact(2, 2)", "exact(2, 3)");
        Run.of(9, "VOID if it is NONE, or none such.").refused("exact(0, 0)").table("1/x", -1, 5, 0).due("exact(0, 0)", -1)
                .refused("exact(0, 1)")
                .due("exact(0, 4)", 0).refused("exact(0, 5)", "exact(0, -1)", "exact(0, GREATEST)", "exact(0, LEAST)", "exact(1, 0)",
                        "exact(-1, 0)",
                "exact(GREATEST, 0)", "exact(LEAST, 0)");
    }

    private static void promise10() {
        Run.of(10, "A HAND comes: the number").due("hand()", 0).due("count(3)", 1).due("hand()", 1).due("count(3)", 2);
        Run x = Run.of(10, "NONE if 8 came.");
        for (int i = 0; i < 8; i++) {
            x.due("hand()", i);
        }
        x.refused("hand()", "hand()").due("count(3)", 8);
        Run y = Run.of(10, "HANDS have numbers as they come, at most 8.").table("x", 5, 4, 0).refused("would(0, 0, 0, 0)");
        for (int i = 0; i < 8; i++) {
            y.due("hand()", i).due("would(" + i + ", 0, 0, 0)", 5).refused("would(" + (i + 1) + ", 0, 0, 0)");
        }
    }

    private static void promise11() {
        Run.of(11, "A HABIT: how many there are").hands(2).due("habit(0, 0, 12)", 1).due("habit(0, 0, 12)", 2).due("habit(1, 2, 898)", 3)
                .due("count(4)", 3);
        Run.of(11, "NONE if there is no such HAND or WAY,").refused("habit(0, 0, 12)").hands(2)
                .refused("habit(2, 0, 12)", "habit(-1, 0, 12)", "habit(8, 0, 12)", "habit(LEAST, 0, 12)", "habit(GREATEST, 0, 12)")
                .refused("habit(0, 3, 12)", "habit(0, -1, 12)", "habit(0, LEAST, 12)", "habit(0, GREATEST, 12)")
                .due("habit(0, 0, 12)", 1).due("habit(1, 2, 12)", 2).refused("habit(2, 2, 12)", "habit(1, 3, 12)");
        Run.of(11, "place or digits can't be (what is place * 100 + digit * 10 + the other one; these differ),").hands(1)
                .refused("habit(0, 0, 900)", "habit(0, 0, 901)", "habit(0, 0, 912)", "habit(0, 0, 1012)", "habit(0, 0, GREATEST)")
                .refused("habit(0, 0, -1)", "habit(0, 0, -12)", "habit(0, 0, -100)", "habit(0, 0, LEAST)")
                .refused("habit(0, 0, 0)", "habit(0, 0, 11)", "habit(0, 0, 99)", "habit(0, 0, 100)", "habit(0, 0, 855)", "habit(0, 0, 899)")
                .due("habit(0, 0, 1)", 1).due("habit(0, 0, 98)", 2).due("habit(0, 0, 801)", 3).due("habit(0, 0, 898)", 4)
                .due("count(4)", 4);
        Run.of(11, "of a HAND by a WAY (0 .. 2), a place (0 .. 8, 0 the last digit), a digit that becomes another one.")
                .table("1234*100000+12345", 0, 4, 0).hands(2)
                .tell("habit(1, 2, 56)", "habit(1, 2, 143)", "habit(1, 2, 817)").due("would(1, 2, 0, 0)", 723412336)
                .due("would(1, 1, 0, 0)", 123412345).due("would(0, 2, 0, 0)", 123412345);
        int unit = 1;
        for (int place = 0; place < 9; place++) {
            Run each = Run.of(11, "place or digits can't be (what is place * 100 + digit * 10 + the other one; these differ),")
                    .table("999999*1000+999", 0, 4, 0).table("0", 0, 4, 0).hands(1);
            each.due("habit(0, 0, " + (place * 100 + 98) + ")", 1).due("habit(0, 0, " + (place * 100 + 9) + ")", 2)
                    .due("habit(0, 1, " + (place * 100 + 90) + ")", 3);
            each.due("would(0, 0, 0, 0)", 999999999 - unit).due("would(0, 0, 1, 0)", 9 * unit)
                    .due("would(0, 1, 0, 0)", 999999999 - 9 * unit).due("would(0, 1, 1, 0)", 0);
            unit *= 10;
        }
        Run x = Run.of(11, "or 24 came.").table("x", 10, 4, 0).hands(2);
        for (int i = 1; i <= 24; i++) {
            x.due("habit(1, 2, " + (i == 24 ? 12 : 98) + ")", i);
        }
        x.refused("habit(0, 0, 12)", "habit(1, 2, 98)").due("count(4)", 24).due("would(1, 2, 0, 1)", 12).due("would(0, 0, 0, 1)", 11);
        Document.quote(11, "HABITS (at most 24):");
    }

    private static void promise12() {
        Run.of(12, "What a HAND would write by a WAY for an ENTRY").table("x", 5, 4, 0).hands(2).tell("habit(1, 1, 56)")
                .due("would(0, 0, 0, 0)", 5).due("would(1, 1, 0, 0)", 6).due("would(1, 0, 0, 0)", 5).due("would(1, 1, 0, 1)", 6)
                .due("would(1, 1, 0, 3)", 8)
                .due("lead(0, 0, 0)", NONE);
        Run.of(12,
                "A HAND who works an ENTRY by a WAY writes TRUE, but each HABIT of theirs for that WAY, as they were told, changes what is written so far:")
                .table("x", 5, 4, 0).hands(2).tell("habit(0, 0, 56)", "habit(0, 0, 67)", "habit(0, 1, 67)", "habit(0, 1, 56)",
                        "habit(1, 0, 58)", "habit(0, 2, 56)", "habit(0, 2, 65)")
                .due("would(0, 0, 0, 0)", 7).due("would(0, 0, 0, 1)", 7).due("would(0, 1, 0, 0)", 6).due("would(0, 1, 0, 1)", 7)
                .due("would(1, 0, 0, 0)", 8)
                .due("would(0, 2, 0, 0)", 5).due("would(0, 2, 0, 1)", 5).due("would(1, 1, 0, 0)", 5);
        Run.of(12, "if the digit at its place (0 where it has none; of the number without its sign) is that, it becomes the other one.")
                .table("x*x*x", -2, 5, 0).hands(3).tell("habit(0, 0, 105)", "habit(0, 1, 801)", "habit(0, 2, 809)", "habit(1, 0, 80)",
                        "habit(1, 1, 2)", "habit(2, 0, 18)")
                .due("would(0, 0, 0, 0)", -58).due("would(0, 0, 0, 2)", 50).due("would(0, 1, 0, 4)", 100000008)
                .due("would(0, 2, 0, 2)", 900000000)
                .due("would(1, 0, 0, 0)", 0).due("would(1, 0, 0, 4)", 0).due("would(1, 1, 0, 2)", 2).due("would(1, 1, 0, 1)", -1)
                .due("would(2, 0, 0, 1)", -8).due("would(2, 0, 0, 3)", 8);
        Run.of(12, "The sign stays that of TRUE.").table("x", -1, 4, 0).hands(1)
                .tell("habit(0, 0, 810)", "habit(0, 0, 809)", "habit(0, 1, 10)", "habit(0, 1, 3)")
                .due("would(0, 0, 0, 0)", -900000001).due("would(0, 0, 0, 1)", 900000000).due("would(0, 1, 0, 0)", -3)
                .due("would(0, 1, 0, 1)", 3).due("would(0, 1, 0, 2)", 3);
        Run.of(12, "Nothing is written for NONE.").table("1/x", 0, 4, 0).hands(2).tell("habit(0, 0, 1)")
                .refused("would(0, 0, 0, 0)", "work(0, 0, 0, 0)")
                .refused("lead(0, 0, 0)", "lead(0, 0, 2)").due("would(0, 0, 0, 1)", 1);
        Run.of(12, "VOID if nothing, or none such.").table("1/x", -1, 4, 0).refused("would(0, 0, 0, 0)").hands(2)
                .due("would(1, 2, 0, 3)", 1)
                .refused("would(0, 0, 0, 1)", "would(2, 0, 0, 0)", "would(-1, 0, 0, 0)", "would(0, 3, 0, 0)", "would(0, -1, 0, 0)",
                        "would(0, 0, 1, 0)", "would(0, 0, -1, 0)",
                        "would(0, 0, 0, 4)", "would(0, 0, 0, -1)", "would(LEAST, 0, 0, 0)", "would(0, GREATEST, 0, 0)",
                                "would(0, 0, GREATEST, 0)", "would(0, 0, 0, LEAST)");
    }

    private static void promise13() {
        Run.of(13, "WORKED: what was written").table("x", 5, 4, 0).hands(2).tell("habit(0, 0, 56)").due("work(0, 0, 0, 0)", 6)
                .due("work(1, 2, 0, 0)", 5)
                .due("work(0, 1, 0, 3)", 8).due("lead(0, 0, 0)", 0).due("lead(0, 0, 2)", 1);
        Run.of(13, "VOID if nothing can be, none such,").table("1/x", -1, 4, 0).refused("work(0, 0, 0, 0)").hands(2)
                .refused("work(0, 0, 0, 1)", "work(2, 0, 0, 0)", "work(-1, 0, 0, 0)", "work(0, 3, 0, 0)", "work(0, -1, 0, 0)",
                        "work(0, 0, 1, 0)", "work(0, 0, -1, 0)",
                        "work(0, 0, 0, 4)", "work(0, 0, 0, -1)", "work(LEAST, 0, 0, 0)", "work(0, LEAST, 0, 0)", "work(0, 0, GREATEST, 0)",
                                "work(0, 0, 0, GREATEST)")
                .due("work(1, 2, 0, 3)", 1).due("work(0, 0, 0, 0)", -1);
        Run.of(13, "the TABLE is SET,").plate("1/x", -1, 4).hands(1).refused("work(0, 0, 0, 0)", "work(0, 0, 0, 1)", "work(2, 2, 0, 0)");
        Run.of(13, "that HAND was first and is alone,").table("x", 5, 4, 0).hands(2).due("work(1, 0, 0, 0)", 5)
                .refused("work(1, 0, 0, 0)", "work(1, 1, 0, 0)")
                .due("lead(0, 0, 1)", 0).due("work(1, 1, 0, 1)", 6).due("work(0, 1, 0, 0)", 5).due("figure(0, 0)", 5);
        Run.of(13, "it is AGREED,").table("x", 5, 4, 0).hands(3).due("work(0, 0, 0, 0)", 5).due("work(1, 1, 0, 0)", 5)
                .refused("work(0, 0, 0, 0)", "work(0, 2, 0, 0)", "work(1, 1, 0, 0)", "work(1, 2, 0, 0)", "work(2, 2, 0, 0)")
                .due("lead(0, 0, 3)", 1);
        Run.of(13, "or two worked it and this is none of them.").table("x", 5, 4, 0).hands(3).due("work(0, 0, 0, 0)", 5)
                .due("work(1, 0, 0, 0)", 5)
                .refused("work(2, 0, 0, 0)", "work(2, 1, 0, 0)").due("lead(0, 0, 0)", 0).due("lead(0, 0, 2)", 1).due("work(1, 1, 0, 0)", 5);
        Run.of(13, "WORKED are ENTRIES by HANDS, each ENTRY by at most two: the first and the second (another HAND).").table("x", 5, 4, 0)
                .table("x", 6, 4, 0).hands(8)
                .refused("lead(0, 0, 0)", "lead(0, 0, 1)", "lead(0, 0, 2)", "lead(0, 0, 3)").due("work(7, 2, 0, 0)", 5)
                .due("lead(0, 0, 0)", 7).due("lead(0, 0, 1)", 2)
                .refused("lead(0, 0, 2)", "lead(0, 0, 3)", "lead(0, 1, 0)", "lead(1, 0, 0)", "work(7, 0, 0, 0)").due("work(0, 2, 0, 0)", 5)
                .due("lead(0, 0, 2)", 0).due("lead(0, 0, 3)", 2)
                .refused("work(1, 0, 0, 0)").due("work(1, 0, 1, 0)", 6);
    }

    private static void promise13Anew() {
        String words = "What isn't AGREED can be worked anew by the two of them (both in place of what was).";
        Run.of(13, words).table("x", 5, 4, 0).hands(3).tell("habit(0, 0, 56)", "work(0, 0, 0, 0)").due("work(1, 1, 0, 0)", 5)
                .refused("figure(0, 0)")
                .due("work(1, 0, 0, 0)", 5).due("lead(0, 0, 3)", 0).due("lead(0, 0, 1)", 0).refused("figure(0, 0)")
                .due("work(0, 0, 0, 0)", 6).refused("figure(0, 0)").due("work(0, 2, 0, 0)", 5).due("figure(0, 0)", 5)
                .due("lead(0, 0, 0)", 0).due("lead(0, 0, 1)", 2).due("lead(0, 0, 2)", 1).due("lead(0, 0, 3)", 0);
        Run.of(13, words).table("x", 5, 4, 0).hands(2).tell("work(1, 2, 0, 0)", "work(0, 2, 0, 0)").due("work(0, 2, 0, 0)", 5)
                .refused("figure(0, 0)")
                .due("work(0, 1, 0, 0)", 5).due("figure(0, 0)", 5).due("lead(0, 0, 0)", 1).due("lead(0, 0, 2)", 0)
                .refused("work(1, 0, 0, 0)");
        Run.of(13, words).table("x", 1, 4, 0).hands(2).tell("work(0, 0, 0, 0)", "work(1, 0, 0, 0)", "habit(0, 1, 12)")
                .due("work(0, 1, 0, 0)", 2)
                .refused("figure(0, 0)").tell("habit(1, 2, 12)").due("work(1, 2, 0, 0)", 2).due("figure(0, 0)", 2).due("exact(0, 0)", 1);
    }

    private static void promise14() {
        Run.of(14, "Its FIGURE (AGREED)").table("x", 5, 4, 0).hands(2).tell("work(0, 0, 0, 0)").refused("figure(0, 0)")
                .tell("work(1, 1, 0, 0)").due("figure(0, 0)", 5)
                .tell("habit(0, 0, 56)", "habit(1, 1, 56)").due("figure(0, 0)", 5).due("count(10)", 1).due("count(20)", 0);
        Run.of(14, "Its FIGURE is AGREED, if both wrote alike, and had different WAYS;").table("x", 5, 4, 0).hands(2)
                .tell("habit(0, 0, 56)", "habit(1, 1, 56)")
                .tell("work(0, 0, 0, 0)", "work(1, 1, 0, 0)").due("figure(0, 0)", 6).tell("work(0, 0, 0, 1)", "work(1, 0, 0, 1)")
                .refused("figure(0, 1)")
                .tell("work(0, 2, 0, 2)", "work(1, 1, 0, 2)").due("figure(0, 2)", 7).due("count(10)", 2);
        Run.of(14, "Its FIGURE is AGREED, if both wrote alike, and had different WAYS;").table("x", 5, 4, 0).hands(2)
                .tell("habit(0, 0, 56)")
                .tell("work(0, 0, 0, 0)", "work(1, 1, 0, 0)").refused("figure(0, 0)").due("count(10)", 0);
        Run.of(14, "it is that from the DAY on which the second one worked.").table("x", 5, 4, 0).hands(2).tell("go(3)", "work(0, 0, 0, 0)")
                .refused("lead(0, 0, 4)")
                .tell("go(4)", "work(1, 1, 0, 0)", "go(5)").due("lead(0, 0, 4)", 7).tell("work(1, 1, 0, 1)", "work(0, 1, 0, 1)")
                .refused("lead(0, 1, 4)")
                .tell("go(8)", "work(0, 0, 0, 1)").due("lead(0, 1, 4)", 20).due("lead(0, 0, 4)", 7);
        Run.of(14, "FALSE is an AGREED FIGURE that isn't TRUE.").table("x", 5, 4, 0).hands(2)
                .tell("habit(0, 0, 56)", "habit(1, 1, 56)", "work(0, 0, 0, 0)")
                .due("count(20)", 0).refused("lead(0, 0, 5)").tell("work(1, 1, 0, 0)").due("count(20)", 1).due("lead(0, 0, 5)", 1)
                .tell("work(0, 0, 0, 1)", "work(1, 1, 0, 1)").due("count(20)", 1).due("lead(0, 1, 5)", 0)
                .tell("work(0, 0, 0, 2)", "work(1, 0, 0, 2)").due("count(20)", 1);
        Run.of(14, "VOID if it isn't, or none such.").table("1/x", -1, 4, 0).hands(2).agree(0, 0, 3).due("figure(0, 0)", -1)
                .due("figure(0, 3)", 1)
                .refused("figure(0, 1)", "figure(0, 4)", "figure(0, -1)", "figure(1, 0)", "figure(-1, 0)", "figure(0, GREATEST)",
                        "figure(LEAST, 0)");
    }

    private static Run pair(Run x, int table, int... want) {
        for (int what = 0; what < want.length; what++) {
            x.due("pair(" + table + ", " + what + ")", want[what]);
        }
        return x;
    }

    private static void promise15() {
        pair(Run.of(15, "PAIR: 0 the lesser HAND, 1 its WAY, 2 the other one, 3 its WAY, 4 ENTRIES alike and FALSE, 5 TRUE ones;")
                .table("x", 1, 4, 0).hands(3)
                .tell("habit(0, 0, 12)", "habit(0, 1, 12)", "habit(0, 2, 13)", "habit(1, 0, 45)", "habit(1, 1, 45)"), 0, 1, 2, 2, 0, 0, 4);
        Run.of(15, "NONE for others, no such TABLE, or fewer than two HANDS.").table("x", 1, 4, 0).refused("pair(0, 0)").hands(1)
                .refused("pair(0, 0)", "pair(0, 4)").hands(1)
                .due("pair(0, 0)", 0).due("pair(0, 5)", 4).refused("pair(0, 6)", "pair(0, -1)", "pair(0, LEAST)", "pair(0, GREATEST)",
                        "pair(1, 0)", "pair(-1, 0)", "pair(LEAST, 0)");
        pair(Run.of(15, "A PAIR for a TABLE: two HANDS with two different WAYS (the lesser HAND by the one, the other by the other):")
                .table("x", 0, 4, 0).hands(2), 0, 0, 0, 1, 1, 0, 4);
        String fewest = "the fewest ENTRIES (not NONE) on which both would write alike and FALSE,";
        Run x = Run.of(15, fewest).table("x", 0, 4, 0).table("if x=1 then 1/0 else x", 0, 4, 0).hands(2);
        for (int i = 0; i < 6; i++) {
            x.tell("habit(" + i / 3 + ", " + i % 3 + ", 12)");
        }
        pair(x, 0, 0, 0, 1, 1, 1, 3);
        pair(x, 1, 0, 0, 1, 1, 0, 3);
        pair(x.tell("habit(1, 2, 23)"), 0, 0, 0, 1, 2, 0, 2);
        Run y = Run.of(15, fewest).table("x", 0, 30, 0).hands(2);
        for (int i = 0; i < 6; i++) {
            y.tell("habit(" + i / 3 + ", " + i % 3 + ", 801)");
        }
        pair(y, 0, 0, 0, 1, 1, 30, 0);
        pair(Run.of(15, fewest).table("1/0", 0, 4, 0).hands(2), 0, 0, 0, 1, 1, 0, 0);
    }

    private static void promise15Order() {
        pair(Run.of(15, "of like ones the most on which both would write TRUE;").table("x", 1, 4, 0).hands(2)
                .tell("habit(0, 0, 19)", "habit(1, 1, 29)", "habit(1, 1, 39)"), 0, 0, 1, 1, 0, 0, 4);
        pair(Run.of(15, "of like ones the most on which both would write TRUE;").table("x", 1, 4, 0).hands(2)
                .tell("habit(0, 0, 19)", "habit(0, 1, 19)", "habit(0, 1, 29)", "habit(0, 2, 19)", "habit(0, 2, 29)",
                        "habit(1, 1, 39)"), 0, 0, 0, 1, 2, 0, 3);
        String order = "of like ones the least HAND, then its WAY, then the other HAND, its WAY.";
        pair(Run.of(15, order).table("x", 1, 4, 0).hands(8), 0, 0, 0, 1, 1, 0, 4);
        pair(Run.of(15, order).table("x", 1, 4, 0).hands(3).tell("habit(1, 1, 19)", "habit(1, 2, 19)"), 0, 0, 0, 2, 1, 0, 4);
        pair(Run.of(15, order).table("x", 1, 4, 0).hands(3).tell("habit(1, 1, 19)"), 0, 0, 0, 1, 2, 0, 4);
        pair(Run.of(15, order).table("x", 1, 4, 0).hands(3).tell("habit(0, 0, 19)", "habit(0, 1, 19)",
                "habit(0, 2, 19)"), 0, 1, 0, 2, 1, 0, 4);
        Run last = Run.of(15, order).table("x", 1, 4, 0).hands(8);
        for (int hand = 0; hand < 6; hand++) {
            last.tell("habit(" + hand + ", 0, 19)", "habit(" + hand + ", 1, 19)", "habit(" + hand + ", 2, 19)");
        }
        pair(last.tell("habit(6, 0, 19)", "habit(6, 1, 19)", "habit(7, 0, 19)"), 0, 6, 2, 7, 1, 0, 4);
    }
}
