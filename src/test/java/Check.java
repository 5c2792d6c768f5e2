/** What the project's tests share: counts wrong answers, and feeds texts. */
final class Check {
    private static int wrong = 0;
    private static int asked = 0;

    private Check() {
    }

    static void due(String what, long got, long want) {
        asked++;
        if (got != want) {
            wrong++;
            System.out.println(what + " answered " + got + ", due is " + want);
        }
    }

    static void due(String what, boolean got, boolean want) {
        due(what, got ? 1 : 0, want ? 1 : 0);
    }

    /** Makes the TEXT just this one. */
    static void text(TableHouse x, String text) {
        due("end(0)", x.end(0), true);
        for (int at = 0; at < text.length(); at += 20) {
            int[] five = new int[5];
            for (int i = 0; i < 20; i++) {
                int b = at + i < text.length() ? text.charAt(at + i) & 255 : ' ';
                five[i / 4] = five[i / 4] << 8 | b;
            }
            due("feed of " + text, x.feed(five[0], five[1], five[2], five[3], five[4]), at + 20);
        }
        due("end of " + text, x.end(text.length()), true);
    }

    static void fault(String text, int want) {
        TableHouse x = new TableHouse();
        text(x, text);
        due("fault of \"" + text + "\"", x.fault(), want);
        due("sheet of \"" + text + "\"", x.sheet(), want == TableHouse.NONE ? 0 : TableHouse.NONE);
        due("bytes after sheet of \"" + text + "\"", x.count(7), want == TableHouse.NONE ? 0 : text.length());
    }

    static int sheet(TableHouse x, String text) {
        text(x, text);
        return x.sheet();
    }

    static void value(String text, int n, int d, int wantN, int wantD) {
        TableHouse x = new TableHouse();
        due("sheet of " + text, sheet(x, text), 0);
        due("n of " + text + " of " + n + "/" + d, x.value(0, n, d, 0), wantN);
        due("d of " + text + " of " + n + "/" + d, x.value(0, n, d, 1), wantD);
    }

    static void noValue(String text, int n, int d) {
        value(text, n, d, TableHouse.VOID, TableHouse.VOID);
    }

    /** A house with one table of the text, x from first on by 1. */
    static TableHouse house(String text, int first, int entries, int places) {
        TableHouse x = new TableHouse();
        due("sheet of " + text, sheet(x, text), 0);
        due("table of " + text, x.table(0, first, 1001, entries * 10 + places), 0);
        return x;
    }

    /** Two more hands, without habits, work all entries of a table that can be worked. */
    static void workAll(TableHouse x, int table, int first, int second) {
        for (int i = 0; i < 30; i++) {
            x.work(first, 0, table, i);
            x.work(second, 1, table, i);
        }
    }

    static void close() {
        System.out.println(wrong + " of " + asked + " answers are not as due");
        if (wrong != 0) {
            System.exit(1);
        }
    }
}
