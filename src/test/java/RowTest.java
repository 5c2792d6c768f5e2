/** Promises 21 to 27: the row, its suspects and rivals, middles and bounds. */
public final class RowTest {
    private static final int NONE = TableHouse.NONE;
    private static final int VOID = TableHouse.VOID;

    public static void main(String[] args) {
        telling();
        laying();
        suspects();
        firstOfLikeCurves();
        rivals();
        gapsInCurves();
        greatCurves();
        middles();
        bounds();
        Check.close();
    }

    private static TableHouse row(int... numbers) {
        TableHouse x = new TableHouse();
        for (int i = 0; i < numbers.length; i++) {
            Check.due("row", x.row(numbers[i]), i + 1);
        }
        return x;
    }

    private static void telling() {
        TableHouse x = row(1, 999999, -999999);
        Check.due("too great", x.row(1000000), NONE);
        Check.due("too small", x.row(-1000000), NONE);
        Check.due("VOID", x.row(VOID), NONE);
        Check.due("length", x.count(5), 3);
        for (int i = 4; i <= 20; i++) {
            Check.due("row", x.row(i), i);
        }
        Check.due("row 21", x.row(0), NONE);
        Check.due("clear", x.clear(), 20);
        Check.due("clear", x.clear(), 0);
        Check.due("length", x.count(5), 0);
        Check.due("row", x.row(0), 1);
    }

    private static void laying() {
        TableHouse x = Check.house("if x=2 then 1/0 else if x=5 then 999999+1 else if x=6 then 0-999999 else x*x", 0, 24, 0);
        x.hand();
        x.hand();
        Check.due("nothing agreed: all gaps", x.lay(0, 0, 20), 0);
        Check.due("length with gaps", x.count(5), 20);
        Check.due("no number among gaps", x.suspects(0, 0), NONE);
        Check.due("full of gaps", x.row(1), NONE);
        Check.workAll(x, 0, 0, 1);
        Check.due("lay", x.lay(0, 0, 20), 18);
        Check.due("lay from 4", x.lay(0, 4, 20), 19);
        Check.due("lay too many", x.lay(0, 5, 20), NONE);
        Check.due("lay 21", x.lay(0, 0, 21), NONE);
        Check.due("lay 0", x.lay(0, 0, 0), NONE);
        Check.due("lay from -1", x.lay(0, -1, 2), NONE);
        Check.due("lay far", x.lay(0, 2147483647, 2), NONE);
        Check.due("lay of no table", x.lay(1, 0, 2), NONE);
        Check.due("what is refused changes nothing", x.count(5), 20);
        Check.due("lay the last", x.lay(0, 23, 1), 1);
        Check.due("a number behind", x.row(529), 2);
        Check.due("no suspects", x.suspects(0, 0), 0);
        Check.due("lay again", x.lay(0, 0, 7), 5);
        Check.due("clear with gaps", x.clear(), 7);
        Check.due("lay a gap", x.lay(0, 2, 1), 0);
        Check.due("row counts places", x.row(5), 2);
        Check.due("row counts places", x.row(6), 3);
        Check.due("suspects by places", x.suspects(0, 0), 4);
    }

    private static void suspects() {
        TableHouse x = row(0, 1, 8, 27, 64, 126, 216, 343, 512, 700);
        Check.due("cubes with two false", x.suspects(3, 0), 32 + 512);
        Check.due("one is near enough", x.suspects(3, 1), 512);
        Check.due("m -1", x.suspects(-1, 0), NONE);
        Check.due("m 4", x.suspects(4, 0), NONE);
        Check.due("r -1", x.suspects(0, -1), NONE);
        Check.due("r 10", x.suspects(0, 10), NONE);
        TableHouse y = row(5, 6, 7);
        Check.due("m 3 of three", y.suspects(3, 0), NONE);
        Check.due("rivals likewise", y.rivals(3, 0), NONE);
        Check.due("m 2 of three", y.suspects(2, 0), 0);
        Check.due("empty", new TableHouse().suspects(0, 0), NONE);
        TableHouse z = row(0, 3, 7, 9, 12);
        Check.due("a line; r 0", z.suspects(1, 0), 4);
        Check.due("a line; r 1", z.suspects(1, 1), 0);
        TableHouse w = row(0, 0, 0, 1, 1);
        Check.due("differs by just a half: fits by 1 alone", w.suspects(0, 0), 24);
        TableHouse h = row(0, 1, 1, 2);
        Check.due("line through 0 and 2 is 1/3 off", h.suspects(1, 0), 12);
        Check.due("and within 1", h.suspects(1, 1), 0);
    }

    private static void firstOfLikeCurves() {
        Check.due("of like ones the first", row(7, 1, 1, 7).suspects(0, 0), 6);
        Check.due("of like ones the first", row(1, 7, 7, 1, 9).suspects(0, 0), 22);
        Check.due("pairs", row(0, 5, 1, 6, 2, 7).suspects(1, 0), 42);
        Check.due("no line has three", row(0, 1, 0, 5).suspects(1, 0), 12);
        Check.due("all lines are rivals", row(0, 1, 0, 5).rivals(1, 0), 5);
    }

    private static void rivals() {
        TableHouse x = row(1, 1, 2, 2, 3);
        Check.due("suspects", x.suspects(0, 0), 28);
        Check.due("one rival", x.rivals(0, 0), 1);
        Check.due("suspects r 1", x.suspects(0, 1), 0);
        Check.due("no rival", x.rivals(0, 1), 0);
        Check.due("m 4", x.rivals(4, 0), NONE);
        Check.due("r 10", x.rivals(0, 10), NONE);
        Check.due("m -1", x.rivals(-1, 0), NONE);
        TableHouse y = row(1, 2, 4, 8, 16, 32, 64, 128, 256, 512, 1024, 2048, 4096, 8192, 16384, 32768, 65536, 131072, 262144, 524288);
        Check.due("first four", y.suspects(3, 0), 0xffff0);
        Check.due("all fours but one", y.rivals(3, 0), 4844);
        Check.due("asked again", y.rivals(3, 0), 4844);
        Check.due("all threes but one", y.rivals(2, 0), 1139);
        Check.due("suspects asked behind", y.suspects(3, 0), 0xffff0);
        Check.due("all but the first", y.suspects(0, 0), 0xffffe);
        Check.due("all ones but one", y.rivals(0, 0), 19);
    }

    private static void gapsInCurves() {
        TableHouse x = Check.house("if x=1 then 1/0 else if x=4 then 1/0 else 3*x+2", 0, 8, 0);
        x.hand();
        x.hand();
        for (int i = 0; i < 8; i++) {
            x.work(0, 0, 0, i);
            x.work(1, 1, 0, i);
        }
        Check.due("lay", x.lay(0, 0, 8), 6);
        Check.due("places count", x.suspects(1, 0), 0);
        Check.due("row", x.row(99), 9);
        Check.due("the last one", x.suspects(1, 0), 256);
        Check.due("rivals", x.rivals(1, 0), 0);
        Check.due("middle over a gap", x.middle(2, 1, 2), VOID);
        Check.due("middle over a gap", x.middle(5, 1, 2), VOID);
        Check.due("middle of 17 20 23 99", x.middle(6, 1, 2), 17);
        Check.due("bound over a gap", x.bound(3), NONE);
        Check.due("lay behind gaps", x.lay(0, 5, 3), 3);
        x.row(26);
        x.row(29);
        Check.due("bound of five", x.bound(2), 0);
        Check.due("bound of five", x.bound(1), 0);
        Check.due("bound of none", x.bound(3), NONE);
    }

    private static void greatCurves() {
        int[] numbers = new int[20];
        for (int i = 0; i < 20; i++) {
            numbers[i] = i % 2 == 0 ? 999999 : -999999;
        }
        TableHouse x = row(numbers);
        Check.due("zigzag, m 0", x.suspects(0, 9), 0xaaaaa);
        Check.due("zigzag, rivals", x.rivals(0, 9), 1);
        Check.due("zigzag, m 3: even ones are on a line", x.suspects(3, 9), 0xaaaaa);
    }

    private static void middles() {
        TableHouse x = row(0, 1, 8, 27, 64);
        Check.due("1.5 cubed", x.middle(1, 1, 2), 3);
        Check.due("2.1 cubed", x.middle(2, 10, 100), 9);
        Check.due("2.99 cubed", x.middle(2, 99, 100), 27);
        Check.due("i 0", x.middle(0, 1, 2), VOID);
        Check.due("i 3", x.middle(3, 1, 2), VOID);
        Check.due("i -1", x.middle(-1, 1, 2), VOID);
        Check.due("i far", x.middle(2147483647, 1, 2), VOID);
        Check.due("i VOID", x.middle(VOID, 1, 2), VOID);
        Check.due("p 0", x.middle(1, 0, 2), VOID);
        Check.due("p = q", x.middle(1, 2, 2), VOID);
        Check.due("p above q", x.middle(1, 3, 2), VOID);
        Check.due("q 101", x.middle(1, 1, 101), VOID);
        Check.due("q -2", x.middle(1, -3, -2), VOID);
        Check.due("a half goes from 0", row(0, 1, 2, 3).middle(1, 1, 2), 2);
        Check.due("a half goes from 0, below", row(0, -1, -2, -3).middle(1, 1, 2), -2);
        Check.due("less than a half", row(0, 1, 2, 3).middle(1, 49, 100), 1);
        Check.due("great ones", row(999999, -999999, 999999, -999999).middle(1, 1, 100), -986467);
    }

    private static void bounds() {
        Check.due("four numbers", row(0, 1, 8, 27).bound(1), NONE);
        TableHouse x = row(0, 0, 0, 0, 1, 0);
        Check.due("1 and 5 at 2", x.bound(2), 1);
        Check.due("i 3: one five alone", x.bound(3), 1);
        TableHouse y = row(0, 0, 128, 0, 0, 0);
        Check.due("3 * 768 by 128", y.bound(2), 18);
        Check.due("the same at 1", y.bound(1), 18);
        Check.due("the later five at 3", y.bound(3), 12);
        Check.due("i 0", y.bound(0), NONE);
        Check.due("i 4", y.bound(4), NONE);
        Check.due("i -1", y.bound(-1), NONE);
        Check.due("i far", y.bound(2147483647), NONE);
        Check.due("i VOID", y.bound(VOID), NONE);
        Check.due("129 by 128 is begun", row(43, 0, 0, 0, 0).bound(1), 2);
        Check.due("126 by 128", row(42, 0, 0, 0, 0).bound(1), 1);
        Check.due("size of what is below 0", row(-43, 0, 0, 0, 0).bound(2), 2);
        Check.due("greatest", row(999999, -999999, 999999, -999999, 999999).bound(2), 375000);
    }
}
