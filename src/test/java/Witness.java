/**
 * Writes down what calls show of a house. Two houses that differ in something that later calls show
 * differ in one of the kinds. Each kind changes the house, so each needs a house of its own.
 */
final class Witness {
    static final int KINDS = 9;

    private final TableHouse x;
    private int callsLeft;
    private final StringBuilder seen = new StringBuilder();

    private Witness(TableHouse x, int callsLeft) {
        this.x = x;
        this.callsLeft = callsLeft;
    }

    static String of(TableHouse x, int kind, int callsLeft) {
        Witness w = new Witness(x, callsLeft);
        switch (kind) {
            case 0 -> w.bytes();
            case 1 -> w.sheets();
            case 2 -> w.tables();
            case 3 -> w.leads();
            case 4 -> w.hands();
            case 5 -> w.engine();
            case 6 -> w.row();
            case 7 -> w.plates();
            default -> w.wear();
        }
        return w.seen.toString();
    }

    /** Behind an object's 512th call nothing is promised, so nothing is asked there. */
    private int ask(String call) {
        if (callsLeft <= 0) {
            return TableHouse.NONE;
        }
        callsLeft--;
        int answer = Call.of(call).on(x);
        seen.append(call).append(' ').append(answer).append('\n');
        return answer;
    }

    private void askEach(String name, int from, int to, String behind) {
        for (int i = from; i <= to; i++) {
            ask(name + "(" + i + behind + ")");
        }
    }

    private void bytes() {
        ask("fault()");
        for (int n = ask("count(7)"); n >= 0 && callsLeft > 1; n--) {
            ask("end(" + n + ")");
            ask("fault()");
        }
    }

    private void sheets() {
        ask("count(1)");
        ask("sheet()");
        ask("count(7)");
        for (int i = 0; i < 10; i++) {
            ask("value(" + i + ", 7, 2, 0)");
            ask("value(" + i + ", 7, 2, 1)");
        }
        for (int i = 0; i < 11; i++) {
            ask("end(0)");
            ask("feed(2015371296, 538976288, 538976288, 538976288, 538976288)");
            ask("end(1)");
            ask("sheet()");
        }
    }

    private void tables() {
        ask("count(0)");
        askEach("count", 10, 34, "");
        for (int t = 0; t < ask("count(2)"); t++) {
            askEach("settings", t, t, ", 1");
            for (int e = 0; e < 30; e++) {
                ask("exact(" + t + ", " + e + ")");
            }
        }
        for (int i = 0; i < 6; i++) {
            ask("table(0, 0, 1001, 40)");
        }
    }

    private void leads() {
        int tables = ask("count(2)");
        for (int t = 0; t < tables; t++) {
            for (int e = 0; e < 5; e++) {
                ask("figure(" + t + ", " + e + ")");
                for (int what = 0; what < 7; what++) {
                    ask("lead(" + t + ", " + e + ", " + what + ")");
                }
            }
        }
        ask("go(1)");
        for (int t = 0; t < tables; t++) {
            for (int i = 0; i < 16; i++) {
                ask("work(" + i % 2 + ", " + (i / 2 + i) % 2 + ", " + t + ", " + i / 4 + ")");
                ask("lead(" + t + ", " + i / 4 + ", 4)");
            }
            ask("set(" + t + ")");
        }
    }

    private void hands() {
        ask("count(3)");
        ask("count(4)");
        for (int i = 0; i < 24; i++) {
            askEach("would", i / 3, i / 3, ", " + i % 3 + ", 0, 1");
            askEach("would", i / 3, i / 3, ", " + i % 3 + ", 0, 2");
        }
        for (int what = 0; what < 6; what++) {
            ask("pair(0, " + what + ")");
        }
        for (int i = 0; i < 9; i++) {
            ask("hand()");
        }
        for (int i = 0; i < 25; i++) {
            ask("habit(0, 0, 12)");
        }
    }

    private void engine() {
        askEach("column", 0, 6, "");
        for (int i = 0; i < 6; i++) {
            ask("turn(1)");
            askEach("column", 0, 6, "");
        }
        for (int i = 0; i < 13; i++) {
            ask("stick(" + i % 5 + ", 0, 1)");
        }
        for (int i = 0; i < 3; i++) {
            ask("turn(40)");
            askEach("column", 0, 6, "");
        }
    }

    private void row() {
        ask("count(5)");
        for (int m = 0; m < 3; m++) {
            ask("suspects(" + m + ", 0)");
            ask("rivals(" + m + ", 0)");
            ask("suspects(" + m + ", 9)");
        }
        for (int i = 0; i < 20; i++) {
            ask("middle(" + i + ", 1, 3)");
            ask("bound(" + i + ")");
        }
        for (int i = 0; i < 21; i++) {
            ask("row(" + i * i * i + ")");
            ask("suspects(0, 0)");
        }
        ask("clear()");
    }

    private void plates() {
        int errata = ask("count(6)");
        askEach("misses", 0, errata, "");
        int tables = ask("count(2)");
        for (int t = 0; t < tables; t++) {
            ask("shared(" + t + ")");
            ask("copied(" + t + ")");
            for (int e = 0; e < 5; e++) {
                ask("read(" + t + ", " + e + ")");
                ask("known(" + t + ", " + e + ", 0)");
                ask("known(" + t + ", " + e + ", 999)");
            }
            ask("set(" + t + ")");
        }
        for (int i = 0; i < 41; i++) {
            ask("erratum(0, 0, " + i + ", 5)");
        }
    }

    private void wear() {
        int tables = ask("count(2)");
        for (int t = 0; t < tables; t++) {
            askEach("count", 30 + t, 30 + t, "");
            for (int copies : new int[] {98, 1, 1, 898, 1, 1, 3998, 1, 1, 1, 4999}) {
                ask("print(" + t + ", " + copies + ")");
                ask("lead(" + t + ", 0, 6)");
                ask("lead(" + t + ", 1, 6)");
            }
        }
    }
}
