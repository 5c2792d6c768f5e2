import java.util.ArrayList;
import java.util.HashSet;
import java.util.List;
import java.util.Set;

/** A run of calls on a new house that tests words of one promise. */
final class Run {
    private static final int LIMIT = 512;
    private static final int FED = 20;

    private final String name;
    private final TableHouse x = new TableHouse();
    private final List<Call> told = new ArrayList<>();
    private final Set<String> keepingAll = new HashSet<>();

    private Run(String name) {
        this.name = name;
    }

    static Run of(int promise, String words) {
        Document.quote(promise, words);
        return new Run("promise " + promise + " (" + words + ")");
    }

    private int make(String call) {
        Call made = Call.of(call);
        told.add(made);
        Check.due(name + ": calls of one object", told.size() <= LIMIT, true);
        return made.on(x);
    }

    Run tell(String... calls) {
        for (String call : calls) {
            make(call);
        }
        return this;
    }

    /** A call that is answered so; if it only asks, it changes nothing. */
    Run due(String call, int want) {
        if (Call.of(call).onlyAsks() && keepingAll.add(call.substring(0, call.indexOf('(')))) {
            changesNothing(call);
        }
        Check.due(name + ": " + call, make(call), want);
        return this;
    }

    /** Calls that are refused: each answers what says so, and changes nothing. */
    Run refused(String... calls) {
        for (String call : calls) {
            changesNothing(call);
            Check.due(name + ": " + call, make(call), Call.of(call).answerIfRefused());
        }
        return this;
    }

    private void changesNothing(String call) {
        int callsLeft = LIMIT - told.size() - 1;
        for (int kind = 0; kind < Witness.KINDS; kind++) {
            String without = Witness.of(again(), kind, callsLeft);
            TableHouse other = again();
            Call.of(call).on(other);
            boolean same = without.equals(Witness.of(other, kind, callsLeft));
            Check.due(name + ": " + call + " changes nothing that witness " + kind + " sees", same, true);
        }
    }

    private TableHouse again() {
        TableHouse same = new TableHouse();
        for (Call call : told) {
            call.on(same);
        }
        return same;
    }

    static String feed(String twenty) {
        StringBuilder call = new StringBuilder("feed(");
        for (int i = 0; i < FED; i += 4) {
            int four = 0;
            for (int k = i; k < i + 4; k++) {
                four = four << 8 | (k < twenty.length() ? twenty.charAt(k) & 255 : ' ');
            }
            call.append(i == 0 ? "" : ", ").append(four);
        }
        return call.append(")").toString();
    }

    /** The TEXT becomes just this one. */
    Run text(String text) {
        make("end(0)");
        for (int at = 0; at < text.length(); at += FED) {
            make(feed(text.substring(at, Math.min(text.length(), at + FED))));
        }
        Check.due(name + ": bytes of " + text, make("end(" + text.length() + ")"), 1);
        return this;
    }

    Run sheet(String text) {
        text(text);
        Check.due(name + ": sheet of " + text, make("sheet()") >= 0, true);
        return this;
    }

    Run fault(String text, int want) {
        return text(text).due("fault()", want);
    }

    /** The function of a text, of x n by d, is this fraction; in a house of its own, for there are but 10 sheets. */
    Run value(String text, int n, int d, int wantN, int wantD) {
        Run own = new Run(name + ": " + text);
        own.sheet(text).due("value(0, " + n + ", " + d + ", 0)", wantN).due("value(0, " + n + ", " + d + ", 1)", wantD);
        return this;
    }

    Run noValue(String text, int n, int d) {
        Run own = new Run(name + ": " + text);
        own.sheet(text).refused("value(0, " + n + ", " + d + ", 0)", "value(0, " + n + ", " + d + ", 1)");
        return this;
    }

    /** A table of a text more: x from first on by 1. */
    Run table(String text, int first, int entries, int places) {
        sheet(text);
        int sheet = make("count(1)") - 1;
        int table = make("table(" + sheet + ", " + first + ", 1001, " + (entries * 10 + places) + ")");
        Check.due(name + ": table of " + text, table >= 0, true);
        return this;
    }

    Run hands(int many) {
        for (int i = 0; i < many; i++) {
            make("hand()");
        }
        return this;
    }

    /** Hands 0 and 1, by ways 0 and 1, work entries of a table. */
    Run agree(int table, int from, int to) {
        for (int e = from; e <= to; e++) {
            make("work(0, 0, " + table + ", " + e + ")");
            make("work(1, 1, " + table + ", " + e + ")");
        }
        return this;
    }

    /** A table of a text, all of whose entries two hands without habits worked, and which is SET. */
    Run plate(String text, int first, int entries) {
        table(text, first, entries, 0).hands(2).agree(0, 0, entries - 1);
        Check.due(name + ": set", make("set(0)") >= 0, true);
        return this;
    }

    Run row(int... numbers) {
        for (int number : numbers) {
            make("row(" + number + ")");
        }
        return this;
    }
}
