/** Promises 1 to 6: the text, its fault, sheets and their values. */
public final class TextTest {
    private static final int NONE = TableHouse.NONE;
    private static final int VOID = TableHouse.VOID;

    public static void main(String[] args) {
        newObject();
        feedAndEnd();
        faultsOfTokens();
        faultsOfPlaces();
        faultsOfDepth();
        sheets();
        values();
        roots();
        choices();
        limits();
        Check.close();
    }

    private static void newObject() {
        TableHouse x = new TableHouse();
        for (int what = 0; what < 8; what++) {
            Check.due("new count " + what, x.count(what), 0);
        }
        Check.due("new count 10", x.count(10), NONE);
        Check.due("new fault", x.fault(), 0);
        Check.due("new clear", x.clear(), 0);
        Check.due("new column 0", x.column(0), 0);
        Check.due("new column 6", x.column(6), 0);
    }

    private static void feedAndEnd() {
        TableHouse x = new TableHouse();
        Check.due("feed", x.feed(0x31323334, 0x35363738, 0x39302b31, 0x32333435, 0x3637382b), 20);
        Check.due("fault of 1234567890+..", x.fault(), 0);
        Check.due("end 20", x.end(20), true);
        Check.due("end 21", x.end(21), false);
        Check.due("end -1", x.end(-1), false);
        Check.due("count 7", x.count(7), 20);
        Check.due("end 3", x.end(3), true);
        Check.due("fault of 123", x.fault(), NONE);
        Check.due("end 4 of 3", x.end(4), false);
        Check.due("feed behind 3", x.feed(0x2b313233, 0x20202020, 0x20202020, 0x20202020, 0x20202020), 23);
        Check.due("fault of 123+123", x.fault(), NONE);
        Check.due("sheet", x.sheet(), 0);
        Check.due("value", x.value(0, 0, 1, 0), 246);
        TableHouse y = new TableHouse();
        for (int i = 1; i <= 10; i++) {
            Check.due("feed " + i, y.feed(0, 0, 0, 0, 0), 20 * i);
        }
        Check.due("feed beyond 200", y.feed(0, 0, 0, 0, 0), NONE);
        Check.due("bytes after it", y.count(7), 200);
        Check.due("end 181", y.end(181), true);
        Check.due("feed of 181", y.feed(0, 0, 0, 0, 0), NONE);
        Check.due("end 180", y.end(180), true);
        Check.due("feed of 180", y.feed(-1, 0, 0, 0, 0), 200);
        Check.due("fault of byte 0", y.fault(), 0);
    }

    private static void faultsOfTokens() {
        Check.fault("", 0);
        Check.fault("    ", 4);
        Check.fault("x", NONE);
        Check.fault("  x  ", NONE);
        Check.fault("xx", 0);
        Check.fault("X", 0);
        Check.fault("x\t", 1);
        Check.fault("x ?", 2);
        Check.fault("x + \u00e9", 4);
        Check.fault("x ) ?", 2);
        Check.fault("x ? )", 2);
        Check.fault("rootx", 0);
        Check.fault("root1", NONE);
        Check.fault("rootroot 1", 0);
        Check.fault("if1<2then3else4", NONE);
        Check.fault("ifx<2then3else4", 0);
        Check.fault("if x<2then x else x", NONE);
        Check.fault("if x<2 thenx else x", 7);
        Check.fault("999999", NONE);
        Check.fault("1000000", 0);
        Check.fault("x+1000000", 2);
        Check.fault("0000000001", NONE);
        Check.fault("99999999999999999999999999999999", 0);
        Check.fault("4294967297", 0);
        Check.fault("1 2", 2);
        Check.fault("1.5", 1);
        Check.fault("then", 0);
        Check.fault("xz", 0);
        Check.fault("x+az", 2);
        Check.fault("else", 0);
    }

    private static void faultsOfPlaces() {
        Check.fault("x+", 2);
        Check.fault("x+ ", 3);
        Check.fault("+x", 0);
        Check.fault("x++x", 2);
        Check.fault("x--x", NONE);
        Check.fault("x*-x", NONE);
        Check.fault("x**x", 2);
        Check.fault("x/", 2);
        Check.fault("()", 1);
        Check.fault("(x", 2);
        Check.fault("(x))", 3);
        Check.fault("(x,x)", 2);
        Check.fault("x<1", 1);
        Check.fault("x x", 2);
        Check.fault("root", 4);
        Check.fault("root )", 5);
        Check.fault("cut(x)", NONE);
        Check.fault("least x", 6);
        Check.fault("least", 5);
        Check.fault("least(x)", 7);
        Check.fault("least(x,x", 9);
        Check.fault("most(x,x,x)", 8);
        Check.fault("most(,x)", 5);
        Check.fault("if x then 1 else 2", 5);
        Check.fault("if x<<1 then 1 else 2", 5);
        Check.fault("if x<1 else 2", 7);
        Check.fault("if x<1 then 1", 13);
        Check.fault("if x<1 then 1 else", 18);
        Check.fault("if x<1 then 1 then 2", 14);
        Check.fault("if", 2);
        Check.fault("if x", 4);
        Check.fault("if x<", 5);
        Check.fault("if x<1", 6);
        Check.fault("if x<1 then", 11);
        Check.fault("(", 1);
        Check.fault("-", 1);
        Check.fault("least(", 6);
        Check.fault("least(x", 7);
        Check.fault("least(x,", 8);
        Check.fault("if x<1=1 then 1 else 2", 6);
        Check.fault("if x+1=x*2 then x-1 else x/2*3", NONE);
        Check.fault("if if x<1 then 1 else 2>1 then if x=1 then 1 else 2 else 3", NONE);
        Check.fault("2*if x<1 then 1 else 2*3", NONE);
        Check.fault("(if x<1 then 1 else 2)*3", NONE);
    }

    private static String times(String part, int n, String then) {
        StringBuilder made = new StringBuilder();
        for (int i = 0; i < n; i++) {
            made.append(part);
        }
        return made.append(then).toString();
    }

    private static void faultsOfDepth() {
        Check.fault(times("(", 10, "x") + times(")", 10, ""), NONE);
        Check.fault(times("(", 11, "x") + times(")", 11, ""), 10);
        Check.fault(times("-", 10, "x"), NONE);
        Check.fault(times("-", 11, "x"), 10);
        Check.fault(times("root ", 11, "x"), 50);
        Check.fault(times("cut ", 10, "x"), NONE);
        Check.fault(times("cut ", 11, "x"), 40);
        Check.fault(times("most(", 10, "x") + times(",x)", 10, ""), NONE);
        Check.fault(times("most(", 11, "x") + times(",x)", 11, ""), 50);
        Check.fault(times("(", 10, "x-x") + times(")", 10, "-x-x"), NONE);
        Check.fault(times("(", 10, "x--x") + times(")", 10, ""), 12);
        Check.fault(times("(-", 5, "x") + times(")", 5, "+(x)"), NONE);
        Check.fault(times("(", 9, "if x<1 then (x) else x") + times(")", 9, ""), 21);
        Check.fault(times("(", 9, "if x<1 then x else -x") + times(")", 9, ""), 28);
        Check.fault(times("if 1<2 then ", 10, "x") + times(" else 1", 10, ""), NONE);
        Check.fault(times("if 1<2 then ", 11, "x") , 120);
        Check.fault(times("x-", 99, "x"), NONE);
    }

    private static void sheets() {
        TableHouse x = new TableHouse();
        for (int i = 0; i < 10; i++) {
            Check.due("sheet " + i, Check.sheet(x, "x+" + i), i);
            Check.due("count 1", x.count(1), i + 1);
        }
        Check.text(x, "x");
        Check.due("sheet 10", x.sheet(), NONE);
        Check.due("its bytes stay", x.count(7), 1);
        Check.due("count 1 of ten", x.count(1), 10);
        for (int i = 0; i < 10; i++) {
            Check.due("value of sheet " + i, x.value(i, 5, 1, 0), 5 + i);
        }
        Check.due("value of sheet 10", x.value(10, 5, 1, 0), VOID);
        Check.due("value of sheet -1", x.value(-1, 5, 1, 0), VOID);
        Check.due("value what 2", x.value(0, 5, 1, 2), VOID);
        Check.due("value what -1", x.value(0, 5, 1, -1), VOID);
        Check.due("value d 0", x.value(0, 5, 0, 0), VOID);
        Check.due("value d -1", x.value(0, 5, -1, 0), VOID);
        Check.due("value d 1000001", x.value(0, 5, 1000001, 0), VOID);
        Check.due("value d 1000000", x.value(0, 1, 1000000, 0), 1);
        Check.due("value d 1000000", x.value(0, 1, 1000000, 1), 1000000);
    }

    private static void values() {
        Check.value("x", 6, 4, 3, 2);
        Check.value("x", 0, 7, 0, 1);
        Check.value("x", -6, 4, -3, 2);
        Check.value("x", 1000000000, 1, 1000000000, 1);
        Check.noValue("x", 1000000001, 1);
        Check.value("x", 2000000000, 2, 1000000000, 1);
        Check.value("x", VOID, 4, -536870912, 1);
        Check.noValue("7", 1000000001, 1);
        Check.value("2+3*4", 0, 1, 14, 1);
        Check.value("10-3-2", 0, 1, 5, 1);
        Check.value("100/5/2", 0, 1, 10, 1);
        Check.value("100/5*2", 0, 1, 40, 1);
        Check.value("(2+3)*4", 0, 1, 20, 1);
        Check.value("-x*x", 3, 1, -9, 1);
        Check.value("- -x", 3, 1, 3, 1);
        Check.value("1/x+1/3", 6, 1, 1, 2);
        Check.value("1/-x", 2, 1, -1, 2);
        Check.noValue("1/x", 0, 1);
        Check.noValue("0*(1/x)", 0, 1);
        Check.noValue("least(1, 1/x)", 0, 1);
        Check.noValue("most(1/x, 1)", 0, 1);
        Check.noValue("-(1/x)", 0, 1);
        Check.noValue("cut(1/x)", 0, 1);
        Check.noValue("root(1/x)", 0, 1);
        Check.noValue("1/(1/x)", 0, 1);
        Check.noValue("(1/x)/2", 0, 1);
        Check.value("least(x, 2/3)", 3, 4, 2, 3);
        Check.value("most(x, 2/3)", 3, 4, 3, 4);
        Check.value("least(-x, x)", 3, 4, -3, 4);
        Check.value("most(x, x)", 3, 4, 3, 4);
        Check.value("least(x, 4)", 7, 2, 7, 2);
        Check.value("most(x, 4)", 7, 2, 4, 1);
        Check.value("cut x", 7, 2, 3, 1);
        Check.value("cut x", -7, 2, -4, 1);
        Check.value("cut -x", 4, 2, -2, 1);
        Check.value("cut x*2", 7, 2, 6, 1);
    }

    private static void roots() {
        Check.value("root x", 2, 1, 141, 100);
        Check.value("root x", 0, 1, 0, 1);
        Check.value("root x", 4, 1, 2, 1);
        Check.value("root x", 1, 4, 1, 2);
        Check.value("root x", 1, 10001, 0, 1);
        Check.value("root x", 1, 10000, 1, 100);
        Check.noValue("root x", -1, 1000000);
        Check.value("root x", 1000000000, 1, 3162277, 100);
        Check.value("root x*x", 4, 1, 8, 1);
        Check.value("root root x", 16, 1, 2, 1);
        Check.value("-root x", 9, 1, -3, 1);
        Check.noValue("root -x", 9, 1);
    }

    private static void choices() {
        Check.value("if x<3 then 1 else 2", 5, 2, 1, 1);
        Check.value("if x<3 then 1 else 2", 3, 1, 2, 1);
        Check.value("if x>3 then 1 else 2", 10, 3, 1, 1);
        Check.value("if x>3 then 1 else 2", 3, 1, 2, 1);
        Check.value("if x=1/2 then 1 else 2", 2, 4, 1, 1);
        Check.value("if x=1/2 then 1 else 2", 1, 3, 2, 1);
        Check.value("if x=0 then 0 else 1/x", 0, 1, 0, 1);
        Check.value("if x=0 then 0 else 1/x", 2, 1, 1, 2);
        Check.value("if x>0 then 1/x else 0", 0, 1, 0, 1);
        Check.noValue("if 1/x<0 then 1 else 2", 0, 1);
        Check.noValue("if 0=1/x then 1 else 2", 0, 1);
        Check.noValue("7+if 1/x<0 then 1 else 2", 0, 1);
        Check.value("if x<1 then 10 else 20+5", 0, 1, 10, 1);
        Check.value("(if x<1 then 10 else 20)+5", 0, 1, 15, 1);
        Check.value("3*if x<1 then 10 else 20*2", 0, 1, 30, 1);
        Check.value("3*if x<1 then 10 else 20*2", 1, 1, 120, 1);
        Check.value("if x<1 then if x<0 then 1 else 2 else 3", -1, 1, 1, 1);
        Check.value("if x<1 then if x<0 then 1 else 2 else 3", 0, 1, 2, 1);
        Check.value("if x<1 then if x<0 then 1 else 2 else 3", 1, 1, 3, 1);
        Check.value("1+if if x<1 then 5 else 6=5 then 7 else 8", 0, 1, 8, 1);
        Check.value("1+if if x<1 then 5 else 6=5 then 7 else 8", 1, 1, 9, 1);
    }

    private static void limits() {
        Check.value("x*1000", 1000000, 1, 1000000000, 1);
        Check.noValue("x*1000+1", 1000000, 1);
        Check.value("-x*1000", 1000000, 1, -1000000000, 1);
        Check.noValue("-x*1000-1", 1000000, 1);
        Check.value("x/1000", 1, 1000000, 1, 1000000000);
        Check.noValue("x/1001", 1, 1000000);
        Check.noValue("x*1001/1001", 1000000, 1);
        Check.noValue("1/x*0", 0, 1);
        Check.value("x*x", 1, 31622, 1, 999950884);
        Check.noValue("x*x", 1, 31623);
        Check.value("x-x", 999999937, 999983, 0, 1);
        Check.noValue("x*x", 999999937, 999983);
        Check.value("if x*x<1 then 1 else 2", 1, 31622, 1, 1);
    }
}
