/** Promises 21 to 27 with part 4 of the document: the row, its suspects and rivals, middles and bounds. */
final class RowPromises {
    private RowPromises() {
    }

    static void all() {
        promise21();
        promise22();
        promise22Gaps();
        promise23();
        promise24();
        promise24Curves();
        promise24First();
        promise25();
        promise26();
        promise26Values();
        promise27();
        promise27Gaps();
    }

    /** A table of x*x*x without gaps but at one entry, laid in the row. */
    private static Run laidWithGap(Run x, int entries, int gap) {
        return x.table("if x=" + gap + " then 1/0 else x*x*x", 0, entries, 0).hands(2).agree(0, 0, entries - 1)
                .tell("lay(0, 0, " + entries + ")");
    }

    private static void promise21() {
        Run.of(21, "A number more of the ROW: how many there are").due("row(5)", 1).due("row(5)", 2).due("row(0)", 3).due("count(5)", 3)
                .due("suspects(0, 0)", 4);
        Run.of(21, "NONE if it can't be, or 20 are there.").refused("row(1000000)", "row(-1000000)", "row(LEAST)", "row(GREATEST)",
                "row(VOID)")
                .due("row(999999)", 1).due("row(-999999)", 2).refused("row(1000000)", "row(-1000000)").due("count(5)", 2);
        Run x = Run.of(21, "A ROW is at most 20 numbers told (-999999 .. 999999);");
        for (int i = 1; i <= 20; i++) {
            x.due("row(" + (i == 20 ? 8 : 7) + ")", i);
        }
        x.refused("row(0)", "row(7)", "row(1000000)").due("count(5)", 20).due("suspects(0, 0)", 1 << 19).due("clear()", 20)
                .due("row(0)", 1);
        laidWithGap(Run.of(21, "NONE if it can't be, or 20 are there."), 20, 3).due("count(5)", 20).refused("row(1)")
                .due("lay(0, 0, 19)", 18).due("row(1)", 20).refused("row(1)");
    }

    private static void promise22() {
        Run.of(22, "The ROW is ENTRIES from .. of a TABLE, n of them (1 .. 20): how many are no GAPS").table("x", 0, 24, 0).hands(2)
                .agree(0, 0, 23).row(5, 6, 7)
                .due("lay(0, 0, 1)", 1).due("count(5)", 1).due("lay(0, 0, 20)", 20).due("count(5)", 20).due("lay(0, 3, 4)", 4)
                .due("count(5)", 4).due("middle(1, 1, 4)", 4)
                .refused("lay(0, 0, 0)", "lay(0, 0, 21)", "lay(0, 0, -1)", "lay(0, 0, LEAST)", "lay(0, 0, GREATEST)").due("row(9)", 5)
                .due("count(5)", 5);
        Run.of(22, "NONE if there are none such.").refused("lay(0, 0, 1)").table("x", 0, 24, 0).hands(2).agree(0, 0, 23)
                .tell("lay(0, 1, 5)")
                .due("lay(0, 4, 20)", 20).refused("lay(0, 5, 20)").due("lay(0, 23, 1)", 1)
                .refused("lay(0, 24, 1)", "lay(0, 23, 2)", "lay(0, -1, 1)", "lay(0, -1, 2)")
                .refused("lay(0, LEAST, 1)", "lay(0, GREATEST, 1)", "lay(0, GREATEST, 20)", "lay(1, 0, 1)", "lay(-1, 0, 1)",
                        "lay(LEAST, 0, 1)").due("count(5)", 1);
        Run.of(22, "NONE if there are none such.").table("x", 0, 4, 0).hands(2).agree(0, 0, 3).due("lay(0, 0, 4)", 4)
                .refused("lay(0, 0, 5)", "lay(0, 1, 4)").due("lay(0, 1, 3)", 3);
    }

    private static void promise22Gaps() {
        String words = "FIGURES of a TABLE can be laid in it (what isn't AGREED, or beyond, is a GAP: its place counts).";
        Run.of(22, words).table("x", 0, 4, 0).hands(2).due("lay(0, 0, 4)", 0).due("count(5)", 4).refused("suspects(0, 0)").agree(0, 1, 1)
                .tell("work(0, 0, 0, 2)")
                .due("lay(0, 0, 4)", 1).due("suspects(0, 0)", 0).tell("work(1, 0, 0, 2)").due("lay(0, 0, 4)", 1).due("row(5)", 5)
                .due("suspects(0, 0)", 16);
        Run.of(22, words).table("999998+x", 0, 4, 0).table("0-999998-x", 0, 4, 0).hands(2).agree(0, 0, 3).agree(1, 0, 3)
                .due("lay(0, 0, 4)", 2).due("lay(1, 0, 4)", 2)
                .due("lay(0, 1, 1)", 1).due("lay(0, 2, 1)", 0).due("lay(1, 1, 1)", 1).due("lay(1, 2, 1)", 0).due("count(5)", 1);
        laidWithGap(Run.of(22, words), 8, 2).due("suspects(3, 0)", 0).due("row(512)", 9).due("suspects(3, 0)", 0).due("row(0)", 10)
                .due("suspects(3, 0)", 512);
        Run.of(22, words).table("5", 0, 4, 0).hands(2).tell("habit(0, 0, 607)", "habit(1, 1, 607)").agree(0, 0, 1)
                .due("figure(0, 0)", 7000005).due("lay(0, 0, 4)", 0);
    }

    private static void promise23() {
        laidWithGap(Run.of(23, "The ROW becomes empty: how many there were (GAPS, too).").due("clear()", 0).row(1, 2, 3).due("clear()", 3)
                .due("count(5)", 0).due("clear()", 0)
                .refused("suspects(0, 0)", "middle(1, 1, 2)", "bound(2)"), 6, 2).due("clear()", 6).due("clear()", 0).due("row(5)", 1)
                .due("suspects(0, 0)", 0);
    }

    private static void promise24() {
        Run.of(24, "SUSPECTS (bits by places)").row(7, 7, 1, 7).due("suspects(0, 0)", 4).row(1, 7, 7).due("suspects(0, 0)", 4 + 16);
        String words = "NONE if m or r can't be, or fewer than m + 1 numbers are there.";
        Run x = Run.of(24, words).refused("suspects(0, 0)");
        for (int m = 0; m < 4; m++) {
            x.row(m * m * m).due("suspects(" + m + ", 0)", 0);
            if (m < 3) {
                x.refused("suspects(" + (m + 1) + ", 0)", "rivals(" + (m + 1) + ", 0)");
            }
        }
        x.refused("suspects(4, 0)", "suspects(-1, 0)", "suspects(LEAST, 0)", "suspects(GREATEST, 0)", "suspects(0, -1)", "suspects(0, 10)",
                "suspects(0, LEAST)", "suspects(0, GREATEST)");
        laidWithGap(Run.of(24, words), 5, 2).due("suspects(3, 0)", 0).due("lay(0, 0, 4)", 3).refused("suspects(3, 0)")
                .due("suspects(2, 0)", 0).due("lay(0, 2, 1)", 0).refused("suspects(0, 0)");
        Run.of(24, "For a degree m (0 .. 3) and a bound r (0 .. 9):").row(0, 1, 8, 27, 64, 125)
                .refused("suspects(-1, 0)", "suspects(4, 0)", "suspects(0, -1)", "suspects(0, 10)")
                .due("suspects(3, 0)", 0).due("suspects(3, 9)", 0).due("suspects(0, 0)", 62).due("suspects(0, 9)", 8 + 16 + 32);
    }

    private static void promise24Curves() {
        String curve = "a CURVE is what goes through m + 1 of the numbers as a polynomial of degree m at most in their places;";
        Run.of(24, curve).row(5, 5, 5, 6).due("suspects(0, 0)", 8).due("suspects(1, 0)", 8).due("suspects(2, 0)", 8)
                .due("suspects(3, 0)", 0);
        Run.of(24, curve).row(1, 2, 4, 7, 11, 16, 23).due("suspects(2, 0)", 64).due("suspects(3, 0)", 64);
        Run.of(24, curve).row(0, 0, 999999, -999999, 0, 0, 0, 0, 0, 0, 0, 0, 0, 0, 0, 0, 0, 0, 0, 999999)
                .due("suspects(3, 9)", 4 + 8 + (1 << 19));
        String fits = "it FITS a number at place i, if its value there differs by r at most.";
        Run.of(24, fits).row(0, 9).due("suspects(0, 9)", 0).due("suspects(0, 8)", 2).tell("clear()").row(0, 10).due("suspects(0, 9)", 2);
        Run.of(24, fits).row(9, 0).due("suspects(0, 9)", 0).due("suspects(0, 8)", 2).tell("clear()").row(10, 0).due("suspects(0, 9)", 2);
        Run.of(24, fits).row(0, 2, 1).due("suspects(1, 0)", 4).due("suspects(1, 1)", 4).due("suspects(1, 2)", 0);
        Run.of(24, fits).row(0, -2, -1).due("suspects(1, 1)", 4).due("suspects(1, 2)", 0);
        Run.of(24, fits).row(0, 1, 1, 2).due("suspects(1, 0)", 12).due("suspects(1, 1)", 0);
    }

    private static void promise24First() {
        Run.of(24, "SUSPECTS of a ROW: the numbers that the CURVE that FITS most doesn't FIT;").row(1, 2, 2, 1, 2)
                .due("suspects(0, 0)", 1 + 8).tell("clear()")
                .row(0, 1, 8, 27, 64, 126, 216, 343, 512, 700).due("suspects(3, 0)", 32 + 512).due("suspects(3, 1)", 512);
        String first = "of like ones by the CURVE whose m + 1 places are first (compared one by one, the least ahead).";
        Run.of(24, first).row(7, 1, 1, 7).due("suspects(0, 0)", 6).tell("clear()").row(1, 7, 7, 1, 9).due("suspects(0, 0)", 22);
        Run.of(24, first).row(0, 101, 100, 99, 4, 5).due("suspects(1, 0)", 14).due("rivals(1, 0)", 1);
        Run.of(24, first).row(0, 1, 0, 5).due("suspects(1, 0)", 12).tell("clear()").row(1, 2, 4, 8, 16, 32).due("suspects(3, 0)", 48);
    }

    private static void promise25() {
        Run.of(25, "RIVALS;").row(1, 1, 2, 2, 3).due("rivals(0, 0)", 1).due("suspects(0, 0)", 28).due("rivals(0, 1)", 0);
        String words = "RIVALS: how many other heaps of just so many numbers are what some CURVE doesn't FIT.";
        Run.of(25, words).row(5).due("rivals(0, 0)", 0).row(5).due("rivals(0, 0)", 0).row(6).due("rivals(0, 0)", 0).row(6)
                .due("rivals(0, 0)", 1).row(7, 7).due("rivals(0, 0)", 2);
        Run.of(25, words).row(0, 1, 0, 5).due("rivals(1, 0)", 5).due("rivals(3, 0)", 0).due("rivals(2, 0)", 3);
        Run x = Run.of(25, words);
        for (int i = 0; i < 20; i++) {
            x.tell("row(" + (1 << Math.min(i, 18)) * (i == 19 ? 2 : 1) + ")");
        }
        x.due("rivals(0, 0)", 19).due("rivals(1, 0)", 189).due("rivals(2, 0)", 1139).due("rivals(3, 0)", 4844);
        Run y = Run.of(25, "NONE likewise.").refused("rivals(0, 0)").row(0, 1, 8).due("rivals(2, 0)", 0).refused("rivals(3, 0)").row(27)
                .due("rivals(3, 0)", 0).due("rivals(3, 9)", 0);
        y.refused("rivals(4, 0)", "rivals(-1, 0)", "rivals(0, -1)", "rivals(0, 10)", "rivals(LEAST, 0)", "rivals(GREATEST, 0)",
                "rivals(0, LEAST)", "rivals(0, GREATEST)");
    }

    private static void promise26() {
        Run.of(26, "MIDDLE;").row(0, 1, 8, 27).due("middle(1, 1, 2)", 3);
        Run.of(26, "VOID if it can't be asked.").refused("middle(0, 1, 2)", "middle(1, 1, 2)").row(0, 100, 200).refused("middle(1, 1, 2)")
                .row(300).due("middle(1, 1, 2)", 150)
                .refused("middle(0, 1, 2)", "middle(2, 1, 2)", "middle(-1, 1, 2)", "middle(LEAST, 1, 2)", "middle(GREATEST, 1, 2)");
        Run.of(26, "MIDDLE between place i and i + 1 by p of q parts (0 below p below q, q to 100):").row(0, 100, 200, 300)
                .refused("middle(1, 0, 2)", "middle(1, 2, 2)", "middle(1, 3, 2)", "middle(1, -1, 2)", "middle(1, 0, 1)", "middle(1, 1, 1)",
                        "middle(1, 0, 0)", "middle(1, -2, -1)")
                .due("middle(1, 1, 2)", 150).due("middle(1, 1, 100)", 101).due("middle(1, 99, 100)", 199)
                .refused("middle(1, 0, 100)", "middle(1, 100, 100)", "middle(1, 1, 101)", "middle(1, 100, 101)", "middle(1, 1, GREATEST)",
                        "middle(1, LEAST, 2)", "middle(1, GREATEST, GREATEST)", "middle(1, LEAST, LEAST)");
        Run.of(26, "those at i - 1 .. i + 2 (all must be there, no GAPS),").row(0, 100, 200, 300, 400, 500).due("middle(1, 1, 2)", 150)
                .due("middle(3, 1, 2)", 350).refused("middle(4, 1, 2)", "middle(0, 1, 2)");
        for (int gap = 0; gap < 8; gap++) {
            Run x = laidWithGap(Run.of(26, "those at i - 1 .. i + 2 (all must be there, no GAPS),"), 8, gap);
            for (int i = 1; i < 6; i++) {
                if (gap < i - 1 || gap > i + 2) {
                    x.due("middle(" + i + ", 1, 2)", ((2 * i + 1) * (2 * i + 1) * (2 * i + 1) + 4) / 8);
                } else {
                    x.refused("middle(" + i + ", 1, 2)");
                }
            }
        }
        Run full = Run.of(26, "those at i - 1 .. i + 2 (all must be there, no GAPS),");
        for (int i = 0; i < 20; i++) {
            full.row(10 * i);
        }
        full.due("middle(17, 1, 2)", 175).refused("middle(18, 1, 2)", "middle(19, 1, 2)", "middle(20, 1, 2)");
    }

    private static void promise26Values() {
        Run.of(26, "the value there of the CURVE through 4 numbers of degree 3:").row(0, 1, 8, 27, 64, 1000).due("middle(2, 1, 10)", 9)
                .due("middle(2, 99, 100)", 27).due("middle(2, 1, 2)", 16)
                .due("middle(3, 1, 2)", -12).tell("clear()").row(1000, 2000, 5000, -3000, 700).due("middle(1, 2, 5)", 3688)
                .due("middle(2, 3, 5)", 67);
        Run.of(26, "rounded to a whole number (of two nearest the one farther from 0).").row(0, 1, 2, 3).due("middle(1, 1, 2)", 2)
                .due("middle(1, 49, 100)", 1).due("middle(1, 51, 100)", 2)
                .tell("clear()").row(0, -1, -2, -3).due("middle(1, 1, 2)", -2).due("middle(1, 49, 100)", -1).due("middle(1, 51, 100)", -2)
                .tell("clear()").row(-1, 0, 1, 2).due("middle(1, 1, 2)", 1).due("middle(1, 49, 100)", 0).tell("clear()").row(1, 0, -1, -2)
                .due("middle(1, 1, 2)", -1).due("middle(1, 49, 100)", 0)
                .tell("clear()").row(-999999, 999999, 999999, -999999).due("middle(1, 1, 2)", 1249999).tell("clear()")
                .row(999999, -999999, -999999, 999999).due("middle(1, 1, 2)", -1249999);
    }

    private static void promise27() {
        Run.of(27, "BOUND;").row(0, 0, 128, 0, 0).due("bound(2)", 18);
        Run.of(27, "NONE likewise.").refused("bound(0)", "bound(2)").row(0, 0, 128, 0).refused("bound(1)", "bound(2)").row(0)
                .due("bound(1)", 18).due("bound(2)", 18)
                .refused("bound(0)", "bound(3)", "bound(4)", "bound(-1)", "bound(5)", "bound(LEAST)", "bound(GREATEST)");
        Run.of(27,
                "BOUND at i: 3 times the greatest size of the fourth differences of the five numbers at i - 2 .. i + 2 and of those at i - 1 .. i + 3")
                .row(128, 0, 0, 0, 0, 256, 0).due("bound(1)", 3).due("bound(2)", 6).due("bound(3)", 24).due("bound(4)", 24)
                .refused("bound(0)", "bound(5)");
        Run.of(27,
                "BOUND at i: 3 times the greatest size of the fourth differences of the five numbers at i - 2 .. i + 2 and of those at i - 1 .. i + 3")
                .row(-128, 0, 0, 0, 0, 0).due("bound(1)", 3).due("bound(2)", 3).due("bound(3)", 0);
        Run.of(27, "by 128, a begun one as a whole one;").row(42, 0, 0, 0, 0).due("bound(2)", 1).tell("clear()").row(43, 0, 0, 0, 0)
                .due("bound(2)", 2).tell("clear()").row(128, 0, 0, 0, 0).due("bound(2)", 3)
                .tell("clear()").row(-43, 0, 0, 0, 0).due("bound(1)", 2).tell("clear()").row(1, 0, 0, 0, 0).due("bound(1)", 1)
                .tell("clear()").row(0, 1, 8, 27, 64).due("bound(1)", 0)
                .tell("clear()").row(999999, -999999, 999999, -999999, 999999).due("bound(2)", 375000);
    }

    private static void promise27Gaps() {
        for (int gap = 0; gap < 8; gap++) {
            Run x = laidWithGap(Run.of(27, "(of those five that are all there, without GAPS),"), 8, gap);
            Run y = laidWithGap(Run.of(27, "NONE without any."), 8, gap);
            for (int i = 0; i < 8; i++) {
                boolean ahead = i - 2 >= 0 && i + 2 < 8 && (gap < i - 2 || gap > i + 2);
                boolean behind = i - 1 >= 0 && i + 3 < 8 && (gap < i - 1 || gap > i + 3);
                if (ahead || behind) {
                    x.due("bound(" + i + ")", 0);
                } else {
                    y.refused("bound(" + i + ")");
                }
            }
        }
        Run full = Run.of(27, "NONE without any.");
        for (int i = 0; i < 20; i++) {
            full.row(10 * i);
        }
        full.due("bound(1)", 0).due("bound(17)", 0).refused("bound(0)", "bound(18)", "bound(19)", "bound(20)");
    }
}
