import java.util.Arrays;

/** A table house by differences; the document's promises 1 to 40 say what each call answers. */
public final class TableHouse {
    public static final int NONE = -1;
    public static final int VOID = -2147483648;

    private static final int MAX_BYTES = 200;
    private static final int FEED_BYTES = 20;
    private static final int MAX_SHEETS = 10;
    private static final int MAX_TABLES = 5;
    private static final int MAX_ENTRIES = 30;
    private static final int MAX_HANDS = 8;
    private static final int WAYS = 3;
    private static final int LAST_DAY = 999;
    private static final int GREATEST = 999999999;
    private static final int BILLION = 1000000000;
    private static final int WHEELS = 9;

    private final Text text;
    private final Parser parser;
    private final Calculator calculator;
    private final Sheet[] sheets;
    private final Table[] tables;
    private final Hands hands;
    private final Engine wheels;
    private final Planner planner;
    private final Row numbers;
    private final Errata errata;
    private int sheetsCame;
    private int tablesCame;
    private int now;
    private int hardness;

    public TableHouse() {
        text = new Text();
        parser = new Parser(text);
        calculator = new Calculator();
        sheets = new Sheet[MAX_SHEETS];
        tables = new Table[MAX_TABLES];
        hands = new Hands();
        wheels = new Engine();
        planner = new Planner();
        numbers = new Row();
        errata = new Errata();
        hardness = 1000;
    }

    public int feed(int a, int b, int c, int d, int e) {
        if (text.length > MAX_BYTES - FEED_BYTES) {
            return NONE;
        }
        text.append(a);
        text.append(b);
        text.append(c);
        text.append(d);
        text.append(e);
        return text.length;
    }

    public boolean end(int n) {
        if (n < 0 || n > text.length) {
            return false;
        }
        text.length = n;
        return true;
    }

    public int fault() {
        return parser.parse();
    }

    public int sheet() {
        if (sheetsCame >= MAX_SHEETS || parser.parse() != NONE) {
            return NONE;
        }
        sheets[sheetsCame] = new Sheet(Arrays.copyOf(parser.code, parser.size));
        sheetsCame++;
        text.length = 0;
        return sheetsCame - 1;
    }

    public int value(int sheet, int n, int d, int what) {
        Sheet asked = sheetAt(sheet);
        if (asked == null || d < 1 || d > 1000000 || what < 0 || what > 1) {
            return VOID;
        }
        calculator.evaluate(asked.code, n, d);
        if (calculator.isNone()) {
            return VOID;
        }
        return (int) (what == 0 ? calculator.numerator() : calculator.denominator());
    }

    public int go(int n) {
        if (n < 0 || n > 100) {
            return NONE;
        }
        now = Math.min(LAST_DAY, now + n);
        return now;
    }

    public int table(int sheet, int first, int steps, int size) {
        Sheet asked = sheetAt(sheet);
        if (asked == null || tablesCame >= MAX_TABLES || first < -1000 || first > 1000) {
            return NONE;
        }
        int step = steps / 1000;
        int parts = steps % 1000;
        int entries = size / 10;
        int places = size % 10;
        if (step < 1 || step > 100 || parts < 1 || parts > 100) {
            return NONE;
        }
        if (entries < 4 || entries > MAX_ENTRIES || places < 0 || places > 4) {
            return NONE;
        }
        Table made = new Table(entries);
        for (int i = 0; i < made.entries; i++) {
            calculator.evaluate(asked.code, first + i * step, parts);
            made.truth[i] = calculator.rounded(places);
        }
        tables[tablesCame] = made;
        tablesCame++;
        return tablesCame - 1;
    }

    public int exact(int table, int entry) {
        Table asked = tableAt(table);
        return asked == null ? VOID : asked.truthOf(entry);
    }

    public int hand() {
        if (hands.came >= MAX_HANDS) {
            return NONE;
        }
        hands.came++;
        return hands.came - 1;
    }

    public int habit(int hand, int way, int what) {
        if (!hands.has(hand, way) || !hands.tellHabit(hand, way, what)) {
            return NONE;
        }
        return hands.habits;
    }

    public int would(int hand, int way, int table, int entry) {
        Table asked = tableAt(table);
        if (asked == null || !hands.has(hand, way)) {
            return VOID;
        }
        return hands.writes(hand, way, asked.truthOf(entry));
    }

    public int work(int hand, int way, int table, int entry) {
        Table asked = tableAt(table);
        if (asked == null || !hands.has(hand, way) || !asked.mayWork(hand, entry)) {
            return VOID;
        }
        int written = hands.writes(hand, way, asked.truthOf(entry));
        asked.takeWork(hand, way, entry, written, now);
        return written;
    }

    public int figure(int table, int entry) {
        Table asked = tableAt(table);
        return asked == null ? VOID : asked.figureOf(entry);
    }

    public int pair(int table, int what) {
        Table asked = tableAt(table);
        if (asked == null || hands.came < 2 || what < 0 || what > 5) {
            return NONE;
        }
        hands.findPair(asked);
        return hands.best[what];
    }

    public int engine(int table, int entry, int d) {
        Table asked = tableAt(table);
        if (asked == null || !asked.differences(entry, d, planner.columns)) {
            return NONE;
        }
        wheels.setTo(planner.columns);
        return Planner.settingCost(d);
    }

    public boolean stick(int wheel, int ahead, int n) {
        if (ahead < 0 || ahead > 50 || n < 1 || n > 50) {
            return false;
        }
        return wheels.tellStick(wheel, ahead, n);
    }

    public int turn(int n) {
        if (n < 0 || n > 60) {
            return VOID;
        }
        for (int i = 0; i < n; i++) {
            wheels.turnOnce();
        }
        return shown(wheels.numberOf(0));
    }

    public int column(int k) {
        if (k == 5) {
            return wheels.bell;
        }
        if (k == 6) {
            return wheels.turns;
        }
        return k < 0 || k > 6 ? NONE : wheels.numberOf(k);
    }

    public int settings(int table, int e) {
        Table asked = tableAt(table);
        if (asked == null || e < 0 || e > 99) {
            return NONE;
        }
        return planner.leastCost(asked, e);
    }

    public int row(int number) {
        return numbers.tell(number) ? numbers.length : NONE;
    }

    public int lay(int table, int from, int n) {
        Table asked = tableAt(table);
        if (asked == null || n < 1 || n > Row.MAX_NUMBERS) {
            return NONE;
        }
        if (from < 0 || from > asked.entries - n) {
            return NONE;
        }
        return numbers.layFigures(asked, from, n);
    }

    public int clear() {
        int were = numbers.length;
        numbers.length = 0;
        return were;
    }

    public int suspects(int m, int r) {
        return numbers.search(m, r, false) ? numbers.leastMissed : NONE;
    }

    public int rivals(int m, int r) {
        return numbers.search(m, r, true) ? numbers.heaps - 1 : NONE;
    }

    public int middle(int i, int p, int q) {
        return numbers.valueBetween(i, p, q);
    }

    public int bound(int i) {
        return numbers.boundAt(i);
    }

    public int set(int table) {
        Table asked = tableAt(table);
        if (asked == null || asked.inType || !asked.allAgreed()) {
            return NONE;
        }
        asked.inType = true;
        return asked.agreedEntries();
    }

    public boolean hard(int copies) {
        if (copies < 100 || copies > 5000) {
            return false;
        }
        hardness = copies;
        return true;
    }

    public int print(int table, int copies) {
        Table asked = plateAt(table);
        if (asked == null || copies < 1 || copies > 5000 || asked.copies > Table.MAX_COPIES - copies) {
            return NONE;
        }
        asked.printCopies(copies, hardness);
        return asked.copies;
    }

    public boolean mend(int table, int entry) {
        Table asked = plateAt(table);
        if (asked == null || !asked.isAgreed(entry)) {
            return false;
        }
        asked.worn[entry] = 0;
        return true;
    }

    public int read(int table, int entry) {
        Table asked = plateAt(table);
        return asked == null ? VOID : asked.readable(entry);
    }

    public int erratum(int table, int entry, int is, int should) {
        Table asked = plateAt(table);
        if (asked == null || !asked.isAgreed(entry) || !isWritable(is) || !isWritable(should)) {
            return NONE;
        }
        return errata.tell(table, entry, is, should, now);
    }

    public int misses(int erratum) {
        if (!errata.has(erratum)) {
            return NONE;
        }
        int table = errata.tableOf[erratum];
        int entry = errata.entryOf[erratum];
        Table asked = tableAt(table);
        if (asked == null) {
            return NONE;
        }
        int stands = errata.applied(table, entry, asked.figureOf(entry), erratum, LAST_DAY);
        return stands == errata.isOf[erratum] ? 0 : 1;
    }

    public int known(int table, int entry, int day) {
        Table asked = plateAt(table);
        if (asked == null || !asked.isAgreed(entry) || day < 0 || day > LAST_DAY) {
            return VOID;
        }
        return errata.applied(table, entry, asked.figureOf(entry), errata.came, day);
    }

    public boolean rival(int table, int entry, int number) {
        Table asked = plateAt(table);
        if (asked == null || !asked.has(entry) || !(number == VOID || isWritable(number))) {
            return false;
        }
        asked.rivals[entry] = number;
        return true;
    }

    public int shared(int table) {
        Table asked = plateAt(table);
        return asked == null ? NONE : asked.sharedFalse();
    }

    public int copied(int table) {
        Table asked = plateAt(table);
        if (asked == null) {
            return NONE;
        }
        return asked.isCopied() ? 1 : 0;
    }

    public int lead(int table, int entry, int what) {
        Table asked = tableAt(table);
        if (asked == null || !asked.has(entry)) {
            return NONE;
        }
        switch (what) {
            case 0:
                return asked.hand[entry];
            case 1:
                return asked.way[entry];
            case 2:
                return asked.otherHand[entry];
            case 3:
                return asked.otherWay[entry];
            case 4:
                return asked.agreedOn[entry];
            case 5:
                return asked.falsehood(entry);
            case 6:
                return asked.inType && asked.isAgreed(entry) ? asked.worn[entry] : NONE;
            default:
                return NONE;
        }
    }

    public int count(int what) {
        switch (what) {
            case 0:
                return now;
            case 1:
                return sheetsCame;
            case 2:
                return tablesCame;
            case 3:
                return hands.came;
            case 4:
                return hands.habits;
            case 5:
                return numbers.length;
            case 6:
                return errata.came;
            case 7:
                return text.length;
            default:
                return countOfTable(what / 10, what % 10);
        }
    }

    private int countOfTable(int kind, int table) {
        Table asked = tableAt(table);
        if (asked == null) {
            return NONE;
        }
        switch (kind) {
            case 1:
                return asked.agreedEntries();
            case 2:
                return asked.falseEntries();
            case 3:
                return asked.copies;
            default:
                return NONE;
        }
    }

    private Sheet sheetAt(int number) {
        return number < 0 || number >= sheetsCame || number >= sheets.length ? null : sheets[number];
    }

    private Table tableAt(int number) {
        return number < 0 || number >= tablesCame || number >= tables.length ? null : tables[number];
    }

    private Table plateAt(int number) {
        Table asked = tableAt(number);
        return asked == null || !asked.inType ? null : asked;
    }

    private static boolean isWritable(int number) {
        return number >= -GREATEST && number <= GREATEST;
    }

    private static int shown(long columnZero) {
        return (int) (columnZero > 499999999 ? columnZero - BILLION : columnZero);
    }

    /** Of two nearest whole numbers the one farther from 0; the divisor is above 0. */
    private static long nearest(long n, long d) {
        if (d <= 0) {
            return 0;
        }
        long size = (2 * Math.abs(n) + d) / (2 * d);
        return n < 0 ? -size : size;
    }

    private static int tenTo(int power) {
        int ten = 1;
        for (int i = 0; i < power && i < WHEELS; i++) {
            ten *= 10;
        }
        return ten;
    }

    /** The bytes that were fed. */
    private static final class Text {
        final int[] bytes = new int[MAX_BYTES];
        int length;

        void append(int four) {
            for (int shift = 24; shift >= 0; shift -= 8) {
                if (length < bytes.length) {
                    bytes[length] = (four >>> shift) & 255;
                    length++;
                }
            }
        }

        int at(int place) {
            return place < 0 || place >= length || place >= bytes.length ? NONE : bytes[place];
        }
    }

    /** A function, as the code that the Parser made of its text. */
    private static final class Sheet {
        final int[] code;

        Sheet(int[] code) {
            this.code = code;
        }
    }

    /** Finds the fault of a text, or makes code of it: numbers of 0 and more push themselves. */
    private static final class Parser {
        static final int PUSH_X = -1;
        static final int ADD = -2;
        static final int SUBTRACT = -3;
        static final int MULTIPLY = -4;
        static final int DIVIDE = -5;
        static final int NEGATE = -6;
        static final int TAKE_ROOT = -7;
        static final int TAKE_CUT = -8;
        static final int TAKE_LEAST = -9;
        static final int TAKE_MOST = -10;
        /** Behind it stand two places in the code: that of else, and that behind the whole if. */
        static final int IF_LESS = -11;
        static final int IF_GREATER = -12;
        static final int IF_EQUAL = -13;
        /** Behind it stands the place in the code to go to. */
        static final int JUMP = -14;

        private static final int MAX_DEPTH = 10;
        private static final int MAX_NUMBER = 999999;
        /** A token makes at most three parts of code. */
        private static final int MAX_CODE = 3 * MAX_BYTES;

        /** Kinds of tokens; a sign's kind is its byte, all of which are above these. */
        private static final int END = 0;
        private static final int BAD = 1;
        private static final int NUMBER = 2;
        private static final int X = 3;
        private static final int ROOT = 4;
        private static final int CUT = 5;
        private static final int LEAST = 6;
        private static final int MOST = 7;
        private static final int IF = 8;
        private static final int THEN = 9;
        private static final int ELSE = 10;
        private static final String SIGNS = "+-*/(),<>=";

        final int[] code = new int[MAX_CODE];
        int size;
        private final Text text;
        private int at;
        private int start;
        private int kind;
        private int number;

        Parser(Text text) {
            this.text = text;
        }

        /** The place of the fault, or NONE; then the code is whole. */
        int parse() {
            size = 0;
            at = 0;
            advance();
            return sum(0) && kind == END ? NONE : start;
        }

        private boolean sum(int depth) {
            if (!product(depth)) {
                return false;
            }
            for (int i = 0; i < MAX_BYTES && (kind == '+' || kind == '-'); i++) {
                int operation = kind == '+' ? ADD : SUBTRACT;
                advance();
                if (!product(depth)) {
                    return false;
                }
                emit(operation);
            }
            return true;
        }

        private boolean product(int depth) {
            if (!factor(depth)) {
                return false;
            }
            for (int i = 0; i < MAX_BYTES && (kind == '*' || kind == '/'); i++) {
                int operation = kind == '*' ? MULTIPLY : DIVIDE;
                advance();
                if (!factor(depth)) {
                    return false;
                }
                emit(operation);
            }
            return true;
        }

        private boolean factor(int depth) {
            if (kind == NUMBER || kind == X) {
                emit(kind == X ? PUSH_X : number);
                advance();
                return true;
            }
            if (!opens() || depth >= MAX_DEPTH) {
                return false;
            }
            int opener = kind;
            advance();
            return opened(opener, depth + 1);
        }

        private boolean opens() {
            return kind == '(' || kind == '-' || kind == ROOT || kind == CUT
                    || kind == LEAST || kind == MOST || kind == IF;
        }

        private boolean opened(int opener, int depth) {
            switch (opener) {
                case '(':
                    return sum(depth) && pass(')');
                case '-':
                    return factor(depth) && emit(NEGATE);
                case ROOT:
                    return factor(depth) && emit(TAKE_ROOT);
                case CUT:
                    return factor(depth) && emit(TAKE_CUT);
                case LEAST:
                    return twoInBrackets(depth) && emit(TAKE_LEAST);
                case MOST:
                    return twoInBrackets(depth) && emit(TAKE_MOST);
                default:
                    return choice(depth);
            }
        }

        private boolean twoInBrackets(int depth) {
            return pass('(') && sum(depth) && pass(',') && sum(depth) && pass(')');
        }

        private boolean choice(int depth) {
            if (!sum(depth)) {
                return false;
            }
            int comparison = comparison();
            if (comparison == 0) {
                return false;
            }
            advance();
            if (!sum(depth) || kind != THEN) {
                return false;
            }
            advance();
            emit(comparison);
            int toElse = size;
            emit(0);
            emit(0);
            if (!sum(depth) || kind != ELSE) {
                return false;
            }
            advance();
            emit(JUMP);
            emit(0);
            patch(toElse, size);
            int ofElse = size;
            if (!sum(depth)) {
                return false;
            }
            patch(toElse + 1, size);
            patch(ofElse - 1, size);
            return true;
        }

        private int comparison() {
            switch (kind) {
                case '<':
                    return IF_LESS;
                case '>':
                    return IF_GREATER;
                case '=':
                    return IF_EQUAL;
                default:
                    return 0;
            }
        }

        private boolean pass(int wanted) {
            if (kind != wanted) {
                return false;
            }
            advance();
            return true;
        }

        private boolean emit(int part) {
            patch(size, part);
            size++;
            return true;
        }

        private void patch(int place, int part) {
            if (place >= 0 && place < code.length) {
                code[place] = part;
            }
        }

        private void advance() {
            for (int i = 0; i < MAX_BYTES && text.at(at) == ' '; i++) {
                at++;
            }
            start = at;
            int first = text.at(at);
            if (first == NONE) {
                kind = END;
            } else if (isLetter(first)) {
                takeWord();
            } else if (isDigit(first)) {
                takeNumber();
            } else {
                kind = SIGNS.indexOf((char) first) >= 0 ? first : BAD;
                at++;
            }
        }

        private void takeNumber() {
            number = 0;
            for (int i = 0; i < MAX_BYTES && isDigit(text.at(at)); i++) {
                number = Math.min(MAX_NUMBER + 1, number * 10 + text.at(at) - '0');
                at++;
            }
            kind = number > MAX_NUMBER ? BAD : NUMBER;
        }

        private void takeWord() {
            for (int i = 0; i < MAX_BYTES && isLetter(text.at(at)); i++) {
                at++;
            }
            kind = isWord("x") ? X
                    : isWord("root") ? ROOT
                    : isWord("cut") ? CUT
                    : isWord("least") ? LEAST
                    : isWord("most") ? MOST
                    : isWord("if") ? IF
                    : isWord("then") ? THEN
                    : isWord("else") ? ELSE
                    : BAD;
        }

        private boolean isWord(String word) {
            if (word.length() != at - start) {
                return false;
            }
            for (int i = 0; i < word.length(); i++) {
                if (word.charAt(i) != text.at(start + i)) {
                    return false;
                }
            }
            return true;
        }

        private static boolean isLetter(int b) {
            return b >= 'a' && b <= 'z';
        }

        private static boolean isDigit(int b) {
            return b >= '0' && b <= '9';
        }
    }

    /** Works out code in fractions on a stack; a fraction whose d is 0 is NONE. */
    private static final class Calculator {
        /** A level holds back at most three fractions, and there are eleven levels. */
        private static final int STACK = 64;

        private final long[] above = new long[STACK];
        private final long[] below = new long[STACK];
        private int top;

        void evaluate(int[] code, long n, long d) {
            top = 0;
            pushReduced(n, d);
            long xn = numerator();
            long xd = denominator();
            top = 0;
            if (xd == 0) {
                push(0, 0);
                return;
            }
            int at = 0;
            for (int i = 0; i < code.length && at >= 0 && at < code.length; i++) {
                int part = code[at];
                if (part >= 0) {
                    push(part, 1);
                    at++;
                } else if (part == Parser.PUSH_X) {
                    push(xn, xd);
                    at++;
                } else if (part == Parser.JUMP) {
                    at = placeIn(code, at + 1);
                } else if (part <= Parser.IF_LESS) {
                    at = choose(code, at);
                } else {
                    apply(part);
                    at++;
                }
            }
        }

        boolean isNone() {
            return denominator() == 0;
        }

        long numerator() {
            return top < 1 || top > STACK ? 0 : above[top - 1];
        }

        long denominator() {
            return top < 1 || top > STACK ? 0 : below[top - 1];
        }

        /** What came out, times 10 to a power, as the nearest whole number; VOID if it can't be written. */
        int rounded(int places) {
            if (isNone()) {
                return VOID;
            }
            long whole = nearest(numerator() * tenTo(places), denominator());
            return whole < -GREATEST || whole > GREATEST ? VOID : (int) whole;
        }

        private static int placeIn(int[] code, int at) {
            return at < 0 || at >= code.length ? code.length : code[at];
        }

        /** The place in the code to go on at. Without an order NONE comes out of the whole if. */
        private int choose(int[] code, int at) {
            long bn = numerator();
            long bd = denominator();
            drop();
            long an = numerator();
            long ad = denominator();
            drop();
            if (ad == 0 || bd == 0) {
                push(0, 0);
                return placeIn(code, at + 2);
            }
            int order = Long.compare(an * bd, bn * ad);
            int part = code.length > at && at >= 0 ? code[at] : 0;
            boolean holds = part == Parser.IF_LESS ? order < 0
                    : part == Parser.IF_GREATER ? order > 0
                    : order == 0;
            return holds ? at + 3 : placeIn(code, at + 1);
        }

        private void apply(int operation) {
            long n = numerator();
            long d = denominator();
            drop();
            switch (operation) {
                case Parser.NEGATE:
                    push(-n, d);
                    break;
                case Parser.TAKE_ROOT:
                    pushRoot(n, d);
                    break;
                case Parser.TAKE_CUT:
                    pushReduced(d > 0 ? Math.floorDiv(n, d) : 0, d > 0 ? 1 : 0);
                    break;
                default:
                    applyToTwo(operation, n, d);
                    break;
            }
        }

        private void applyToTwo(int operation, long bn, long bd) {
            long an = numerator();
            long ad = denominator();
            drop();
            switch (operation) {
                case Parser.ADD:
                    pushReduced(an * bd + bn * ad, ad * bd);
                    break;
                case Parser.SUBTRACT:
                    pushReduced(an * bd - bn * ad, ad * bd);
                    break;
                case Parser.MULTIPLY:
                    pushReduced(an * bn, ad * bd);
                    break;
                case Parser.DIVIDE:
                    pushReduced(an * bd, ad * bn);
                    break;
                case Parser.TAKE_LEAST:
                    pushOne(an * bd <= bn * ad, an, ad, bn, bd);
                    break;
                default:
                    pushOne(an * bd >= bn * ad, an, ad, bn, bd);
                    break;
            }
        }

        private void pushOne(boolean first, long an, long ad, long bn, long bd) {
            if (ad == 0 || bd == 0) {
                push(0, 0);
            } else if (first) {
                push(an, ad);
            } else {
                push(bn, bd);
            }
        }

        private void pushRoot(long n, long d) {
            if (n < 0 || d <= 0) {
                push(0, 0);
                return;
            }
            long square = n * 10000 / d;
            long low = 0;
            long high = 4000000;
            for (int i = 0; i < 64 && low < high; i++) {
                long middle = (low + high + 1) / 2;
                if (middle * middle <= square) {
                    low = middle;
                } else {
                    high = middle - 1;
                }
            }
            pushReduced(low, 100);
        }

        private void pushReduced(long n, long d) {
            long divisor = commonDivisor(Math.abs(n), Math.abs(d));
            if (d == 0 || divisor == 0) {
                push(0, 0);
                return;
            }
            long rn = (d < 0 ? -n : n) / divisor;
            long rd = Math.abs(d) / divisor;
            boolean fits = rn >= -BILLION && rn <= BILLION && rd <= BILLION;
            push(fits ? rn : 0, fits ? rd : 0);
        }

        private static long commonDivisor(long a, long b) {
            long greater = a;
            long lesser = b;
            for (int i = 0; i < 200 && lesser != 0; i++) {
                long rest = greater % lesser;
                greater = lesser;
                lesser = rest;
            }
            return greater;
        }

        private void push(long n, long d) {
            if (top >= 0 && top < STACK) {
                above[top] = n;
                below[top] = d;
                top++;
            }
        }

        private void drop() {
            if (top > 0) {
                top--;
            }
        }
    }

    /** A table: what is true, who worked it, and its plate. */
    private static final class Table {
        static final int MAX_COPIES = 60000;

        final int entries;
        final int[] truth;
        final int[] hand;
        final int[] way;
        final int[] written;
        final int[] otherHand;
        final int[] otherWay;
        final int[] otherWritten;
        final int[] agreedOn;
        final int[] worn;
        final int[] rivals;
        boolean inType;
        int copies;
        /** Copies since all digits were last worn. */
        private int sinceWorn;

        Table(int entries) {
            this.entries = Math.max(0, Math.min(MAX_ENTRIES, entries));
            truth = filled(VOID);
            hand = filled(NONE);
            way = filled(NONE);
            written = filled(VOID);
            otherHand = filled(NONE);
            otherWay = filled(NONE);
            otherWritten = filled(VOID);
            agreedOn = filled(NONE);
            worn = filled(0);
            rivals = filled(VOID);
        }

        private static int[] filled(int with) {
            int[] made = new int[MAX_ENTRIES];
            Arrays.fill(made, with);
            return made;
        }

        boolean has(int entry) {
            return entry >= 0 && entry < entries && entry < MAX_ENTRIES;
        }

        int truthOf(int entry) {
            return has(entry) ? truth[entry] : VOID;
        }

        boolean isAgreed(int entry) {
            return has(entry) && agreedOn[entry] != NONE;
        }

        int figureOf(int entry) {
            return isAgreed(entry) ? written[entry] : VOID;
        }

        boolean isFalse(int entry) {
            return isAgreed(entry) && written[entry] != truth[entry];
        }

        int falsehood(int entry) {
            if (!isAgreed(entry)) {
                return NONE;
            }
            return isFalse(entry) ? 1 : 0;
        }

        boolean mayWork(int who, int entry) {
            if (inType || isAgreed(entry) || truthOf(entry) == VOID) {
                return false;
            }
            if (otherHand[entry] == NONE) {
                return hand[entry] != who;
            }
            return hand[entry] == who || otherHand[entry] == who;
        }

        /** Each of the two has a place of their own, which what they write anew takes. */
        void takeWork(int who, int by, int entry, int number, int day) {
            if (!has(entry)) {
                return;
            }
            if (hand[entry] == NONE || hand[entry] == who) {
                hand[entry] = who;
                way[entry] = by;
                written[entry] = number;
            } else {
                otherHand[entry] = who;
                otherWay[entry] = by;
                otherWritten[entry] = number;
            }
            boolean two = otherHand[entry] != NONE;
            if (two && written[entry] == otherWritten[entry] && way[entry] != otherWay[entry]) {
                agreedOn[entry] = day;
            }
        }

        boolean allAgreed() {
            for (int i = 0; i < entries; i++) {
                if (truthOf(i) != VOID && !isAgreed(i)) {
                    return false;
                }
            }
            return true;
        }

        int agreedEntries() {
            int found = 0;
            for (int i = 0; i < entries; i++) {
                found += isAgreed(i) ? 1 : 0;
            }
            return found;
        }

        int falseEntries() {
            int found = 0;
            for (int i = 0; i < entries; i++) {
                found += isFalse(i) ? 1 : 0;
            }
            return found;
        }

        /** Puts TRUE and its first d differences from an entry on as columns hold them; false if it can't be. */
        boolean differences(int entry, int d, long[] columns) {
            if (!has(entry) || d < 1 || d >= columns.length || !has(entry + d)) {
                return false;
            }
            Arrays.fill(columns, 0);
            for (int k = 0; k <= d; k++) {
                if (truthOf(entry + k) == VOID) {
                    return false;
                }
                columns[k] = truthOf(entry + k);
            }
            for (int level = 1; level <= d; level++) {
                for (int k = d; k >= level; k--) {
                    columns[k] -= columns[k - 1];
                }
            }
            for (int k = 0; k <= d; k++) {
                columns[k] = Math.floorMod(columns[k], (long) BILLION);
            }
            return true;
        }

        void printCopies(int more, int hardness) {
            copies += more;
            int left = more;
            for (int i = 0; i <= more && left > 0; i++) {
                int untilWorn = Math.max(1, hardness - sinceWorn);
                if (left < untilWorn) {
                    sinceWorn += left;
                    left = 0;
                } else {
                    left -= untilWorn;
                    sinceWorn = 0;
                    wearAll();
                }
            }
        }

        private void wearAll() {
            for (int i = 0; i < worn.length; i++) {
                worn[i]++;
            }
        }

        int readable(int entry) {
            if (!isAgreed(entry)) {
                return VOID;
            }
            int rest = Math.abs(written[entry]);
            int seen = 0;
            for (int place = 0; place < WHEELS; place++) {
                seen += readDigit(rest % 10, worn[entry]) * tenTo(place);
                rest /= 10;
            }
            return written[entry] < 0 ? -seen : seen;
        }

        private static int readDigit(int digit, int steps) {
            switch (digit) {
                case 3:
                    return steps >= 4 ? 8 : 3;
                case 8:
                    return steps >= 7 ? 3 : 8;
                case 1:
                    return steps >= 5 ? 7 : 1;
                case 6:
                    return steps >= 6 ? 5 : 6;
                default:
                    return digit;
            }
        }

        int sharedFalse() {
            int found = 0;
            for (int i = 0; i < entries; i++) {
                if (isFalse(i) && rivals[i] == written[i]) {
                    found++;
                }
            }
            return found;
        }

        boolean isCopied() {
            int n = 0;
            int f = 0;
            int o = 0;
            for (int i = 0; i < entries; i++) {
                if (rivals[i] != VOID) {
                    n++;
                    f += rivals[i] != truth[i] ? 1 : 0;
                    o += isFalse(i) ? 1 : 0;
                }
            }
            long asMany = 0;
            for (int k = sharedFalse(); k <= f; k++) {
                asMany += heapsOf(o, k) * heapsOf(n - o, f - k);
            }
            return asMany * 100 < heapsOf(n, f);
        }

        private static long heapsOf(int all, int some) {
            if (some < 0 || some > all) {
                return 0;
            }
            long heaps = 1;
            for (int i = 1; i <= some; i++) {
                heaps = heaps * (all - some + i) / i;
            }
            return heaps;
        }
    }

    /** Those who work, and their habits. */
    private static final class Hands {
        private static final int MAX_HABITS = 24;

        int came;
        int habits;
        /** The best pair: hand, way, other hand, its way, alike and false, true. */
        final int[] best = new int[6];
        private final int[] whose = new int[MAX_HABITS];
        private final int[] byWay = new int[MAX_HABITS];
        /** The place of the digit, as a power of ten. */
        private final int[] unit = new int[MAX_HABITS];
        private final int[] digit = new int[MAX_HABITS];
        private final int[] becomes = new int[MAX_HABITS];
        /** What each hand would write by each way for each entry of the table looked at. */
        private final int[] wouldWrite = new int[MAX_HANDS * WAYS * MAX_ENTRIES];

        boolean has(int hand, int way) {
            return hand >= 0 && hand < came && way >= 0 && way < WAYS;
        }

        boolean tellHabit(int hand, int way, int what) {
            int from = what / 10 % 10;
            int to = what % 10;
            if (habits >= MAX_HABITS || what < 0 || what >= 100 * WHEELS || from == to) {
                return false;
            }
            whose[habits] = hand;
            byWay[habits] = way;
            unit[habits] = tenTo(what / 100);
            digit[habits] = from;
            becomes[habits] = to;
            habits++;
            return true;
        }

        int writes(int hand, int way, int truth) {
            if (truth == VOID) {
                return VOID;
            }
            int size = Math.abs(truth);
            for (int i = 0; i < habits && i < MAX_HABITS; i++) {
                if (whose[i] == hand && byWay[i] == way) {
                    if (unit[i] > 0 && size / unit[i] % 10 == digit[i]) {
                        size += (becomes[i] - digit[i]) * unit[i];
                    }
                }
            }
            return truth < 0 ? -size : size;
        }

        void findPair(Table table) {
            fillWouldWrite(table);
            best[4] = MAX_ENTRIES + 1;
            best[5] = 0;
            for (int a = 0; a < came; a++) {
                for (int wayOfA = 0; wayOfA < WAYS; wayOfA++) {
                    for (int b = a + 1; b < came; b++) {
                        for (int wayOfB = 0; wayOfB < WAYS; wayOfB++) {
                            if (wayOfA != wayOfB) {
                                weigh(table, a, wayOfA, b, wayOfB);
                            }
                        }
                    }
                }
            }
        }

        private void fillWouldWrite(Table table) {
            for (int hand = 0; hand < came; hand++) {
                for (int way = 0; way < WAYS; way++) {
                    for (int i = 0; i < table.entries; i++) {
                        int slot = slotOf(hand, way, i);
                        if (slot < wouldWrite.length) {
                            wouldWrite[slot] = writes(hand, way, table.truthOf(i));
                        }
                    }
                }
            }
        }

        private static int slotOf(int hand, int way, int entry) {
            return (hand * WAYS + way) * MAX_ENTRIES + entry;
        }

        /** Pairs come in their order, so only a better one takes the place of the best. */
        private void weigh(Table table, int a, int wayOfA, int b, int wayOfB) {
            int alikeFalse = 0;
            int bothTrue = 0;
            for (int i = 0; i < table.entries; i++) {
                int truth = table.truthOf(i);
                int slotOfA = slotOf(a, wayOfA, i);
                int slotOfB = slotOf(b, wayOfB, i);
                boolean there = slotOfA < wouldWrite.length && slotOfB < wouldWrite.length;
                if (truth != VOID && there && wouldWrite[slotOfA] == wouldWrite[slotOfB]) {
                    if (wouldWrite[slotOfA] == truth) {
                        bothTrue++;
                    } else {
                        alikeFalse++;
                    }
                }
            }
            if (alikeFalse < best[4] || alikeFalse == best[4] && bothTrue > best[5]) {
                best[0] = a;
                best[1] = wayOfA;
                best[2] = b;
                best[3] = wayOfB;
                best[4] = alikeFalse;
                best[5] = bothTrue;
            }
        }
    }

    /** The engine of wheels. */
    private static final class Engine {
        static final int COLUMNS = 5;
        private static final int MAX_STICKS = 12;

        int bell;
        int turns;
        /** The digits of column 0 from the last one on, then those of column 1, and so on. */
        private final int[] digits = new int[COLUMNS * WHEELS];
        private final int[] stuckWheel = new int[MAX_STICKS];
        private final int[] stuckFrom = new int[MAX_STICKS];
        private final int[] stuckUntil = new int[MAX_STICKS];
        private int sticks;

        void setTo(long[] columns) {
            for (int k = 0; k < COLUMNS; k++) {
                long rest = k < columns.length ? columns[k] : 0;
                for (int wheel = 0; wheel < WHEELS; wheel++) {
                    digits[k * WHEELS + wheel] = (int) (rest % 10);
                    rest /= 10;
                }
            }
            bell = 0;
            turns = 0;
            sticks = 0;
        }

        boolean tellStick(int wheel, int ahead, int n) {
            if (sticks >= MAX_STICKS || wheel < 0 || wheel / 10 >= COLUMNS || wheel % 10 >= WHEELS) {
                return false;
            }
            stuckWheel[sticks] = wheel / 10 * WHEELS + wheel % 10;
            stuckFrom[sticks] = turns + ahead;
            stuckUntil[sticks] = turns + ahead + n;
            sticks++;
            return true;
        }

        int numberOf(int column) {
            if (column < 0 || column >= COLUMNS) {
                return NONE;
            }
            int number = 0;
            for (int wheel = WHEELS - 1; wheel >= 0; wheel--) {
                number = number * 10 + digits[column * WHEELS + wheel];
            }
            return number;
        }

        /** From column 0 on, so that each is given the next one as it was ahead of the turn. */
        void turnOnce() {
            long stuck = stuckNow();
            for (int k = 0; k < COLUMNS - 1; k++) {
                addNextColumn(k, stuck);
            }
            turns++;
        }

        private long stuckNow() {
            long stuck = 0;
            for (int i = 0; i < sticks && i < MAX_STICKS; i++) {
                if (turns >= stuckFrom[i] && turns < stuckUntil[i]) {
                    stuck |= 1L << stuckWheel[i];
                }
            }
            return stuck;
        }

        private void addNextColumn(int column, long stuck) {
            int carry = 0;
            for (int wheel = 0; wheel < WHEELS; wheel++) {
                int at = column * WHEELS + wheel;
                if (at < 0 || at + WHEELS >= digits.length) {
                    return;
                }
                if ((stuck >>> at & 1) == 1) {
                    carry = 0;
                } else {
                    int sum = digits[at] + digits[at + WHEELS] + carry;
                    digits[at] = sum % 10;
                    carry = sum / 10;
                }
            }
            bell += carry;
        }
    }

    /** Finds the least cost of a table's settings. */
    private static final class Planner {
        private static final int BY_HAND = 30;

        final long[] columns = new long[Engine.COLUMNS];
        /** The least cost of the entries ahead of each. */
        private final int[] least = new int[MAX_ENTRIES + 1];

        static int settingCost(int d) {
            return 14 + 4 * d;
        }

        int leastCost(Table table, int e) {
            Arrays.fill(least, BY_HAND * MAX_ENTRIES);
            least[0] = 0;
            for (int i = 0; i < table.entries && i < MAX_ENTRIES; i++) {
                boolean none = table.truthOf(i) == VOID;
                offer(i + 1, least[i] + (none ? 0 : BY_HAND));
                for (int d = 1; d < Engine.COLUMNS && !none; d++) {
                    offerRuns(table, i, d, e);
                }
            }
            return table.entries < least.length ? least[table.entries] : NONE;
        }

        private void offer(int upTo, int cost) {
            if (upTo >= 0 && upTo < least.length && cost < least[upTo]) {
                least[upTo] = cost;
            }
        }

        private void offerRuns(Table table, int i, int d, int e) {
            if (i < 0 || i >= least.length || !table.differences(i, d, columns)) {
                return;
            }
            int cost = least[i] + settingCost(d);
            for (int j = i; j < table.entries; j++) {
                int truth = table.truthOf(j);
                if (truth == VOID || Math.abs((long) shown(columns[0]) - truth) > e) {
                    return;
                }
                if (j >= i + d) {
                    offer(j + 1, cost + j - i);
                }
                addColumns();
            }
        }

        private void addColumns() {
            for (int k = 0; k < columns.length - 1; k++) {
                columns[k] = (columns[k] + columns[k + 1]) % BILLION;
            }
        }
    }

    /** The row of numbers, its curves and its middles; a gap is VOID. */
    private static final class Row {
        static final int MAX_NUMBERS = 20;
        private static final int MAX_SIZE = 999999;
        /** 4 of 20. */
        private static final int MAX_CURVES = 4845;
        /** A power of two well above the curves, so that a free slot is near. */
        private static final int SLOTS = 8192;

        int length;
        /** The bits of those that the best curve misses, and how many heaps of just so many there are. */
        int leastMissed;
        int heaps;
        private final int[] told = new int[MAX_NUMBERS];
        /** The places of the numbers that are no gaps. */
        private final int[] places = new int[MAX_NUMBERS];
        private int present;
        /** Which of these places the curve goes through, and those places, in order. */
        private final int[] chosen = new int[4];
        private int chosenCount;
        private final int[] points = new int[4];
        /** The curve's divided differences; with its values they are told times the scale, so that they are whole. */
        private final long[] curve = new long[4];
        private long scale;
        /** Missed heaps that came, each plus 1; made when first needed, for most houses never ask. */
        private int[] seen;

        boolean tell(int number) {
            if (length >= MAX_NUMBERS || !isRowNumber(number)) {
                return false;
            }
            told[length] = number;
            length++;
            return true;
        }

        private static boolean isRowNumber(int number) {
            return number >= -MAX_SIZE && number <= MAX_SIZE;
        }

        int layFigures(Table table, int from, int n) {
            length = Math.max(0, Math.min(n, MAX_NUMBERS));
            int noGaps = 0;
            for (int i = 0; i < length; i++) {
                int figure = table.figureOf(from + i);
                told[i] = isRowNumber(figure) ? figure : VOID;
                noGaps += told[i] == VOID ? 0 : 1;
            }
            return noGaps;
        }

        private boolean isThere(int place) {
            return place >= 0 && place < length && place < MAX_NUMBERS && told[place] != VOID;
        }

        private boolean areThere(int first, int last) {
            for (int i = first; i <= last; i++) {
                if (!isThere(i)) {
                    return false;
                }
            }
            return true;
        }

        /** Looks at all curves; false if that can't be asked. */
        boolean search(int m, int r, boolean countHeaps) {
            if (m < 0 || m > 3 || r < 0 || r > 9) {
                return false;
            }
            findPlaces();
            if (present < m + 1) {
                return false;
            }
            if (countHeaps) {
                freeSlots();
            }
            firstChoice(m + 1);
            int fewest = MAX_NUMBERS + 1;
            boolean more = true;
            for (int i = 0; i < MAX_CURVES && more; i++) {
                drawCurve();
                int missed = missedBy(r, fewest);
                if (missed != NONE) {
                    int many = Integer.bitCount(missed);
                    if (many < fewest) {
                        fewest = many;
                        leastMissed = missed;
                        heaps = 0;
                    }
                    heaps += countHeaps && isNewHeap(missed) ? 1 : 0;
                }
                more = nextChoice();
            }
            return true;
        }

        private void findPlaces() {
            present = 0;
            for (int i = 0; i < length && i < MAX_NUMBERS; i++) {
                if (told[i] != VOID && present < places.length) {
                    places[present] = i;
                    present++;
                }
            }
        }

        private void freeSlots() {
            if (seen == null) {
                seen = new int[SLOTS];
            } else {
                Arrays.fill(seen, 0);
            }
        }

        /** Heaps of other sizes that came before stay in their slots: no heap is taken for one of them. */
        private boolean isNewHeap(int missed) {
            if (seen == null) {
                return false;
            }
            int slot = missed * -1640531527 >>> 19;
            for (int i = 0; i < SLOTS; i++) {
                int at = (slot + i) & (SLOTS - 1);
                if (at >= seen.length || seen[at] == missed + 1) {
                    return false;
                }
                if (seen[at] == 0) {
                    seen[at] = missed + 1;
                    return true;
                }
            }
            return false;
        }

        private void firstChoice(int many) {
            chosenCount = Math.min(many, chosen.length);
            for (int j = 0; j < chosenCount; j++) {
                chosen[j] = j;
            }
        }

        /** The next choice in the order of places; false behind the last one. */
        private boolean nextChoice() {
            for (int j = chosenCount - 1; j >= 0; j--) {
                if (chosen[j] < present - chosenCount + j) {
                    chosen[j]++;
                    for (int k = j + 1; k < chosenCount; k++) {
                        chosen[k] = chosen[k - 1] + 1;
                    }
                    return true;
                }
            }
            return false;
        }

        private int numberAt(int place) {
            return place < 0 || place >= told.length ? 0 : told[place];
        }

        /** Divided differences; each division leaves no rest, since the scale holds all its divisors. */
        private void drawCurve() {
            for (int j = 0; j < chosenCount; j++) {
                points[j] = chosen[j] >= 0 && chosen[j] < present ? places[chosen[j]] : 0;
            }
            scale = 1;
            for (int j = 0; j < chosenCount; j++) {
                for (int k = j + 1; k < chosenCount; k++) {
                    scale *= points[k] - points[j];
                }
            }
            for (int j = 0; j < chosenCount; j++) {
                curve[j] = scale * numberAt(points[j]);
            }
            for (int level = 1; level < chosenCount; level++) {
                for (int k = chosenCount - 1; k >= level; k--) {
                    int apart = points[k] - points[k - level];
                    curve[k] = apart == 0 ? 0 : (curve[k] - curve[k - 1]) / apart;
                }
            }
        }

        private long curveAt(int place) {
            long value = 0;
            for (int j = chosenCount - 1; j >= 0; j--) {
                value = value * (place - points[j]) + curve[j];
            }
            return value;
        }

        /** The bits of the numbers that the curve misses; NONE if these are more than so many. */
        private int missedBy(int r, int most) {
            int missed = 0;
            int many = 0;
            for (int i = 0; i < present && i < places.length; i++) {
                int place = places[i];
                if (Math.abs(curveAt(place) - numberAt(place) * scale) > r * scale) {
                    missed |= 1 << place;
                    many++;
                    if (many > most) {
                        return NONE;
                    }
                }
            }
            return missed;
        }

        int valueBetween(int i, int p, int q) {
            if (p <= 0 || p >= q || q > 100) {
                return VOID;
            }
            if (i < 1 || i >= MAX_NUMBERS || !areThere(i - 1, i + 2)) {
                return VOID;
            }
            long before = p + q;
            long first = p;
            long second = p - q;
            long behind = p - 2 * q;
            long sum = -numberAt(i - 1) * first * second * behind
                    + 3 * numberAt(i) * before * second * behind
                    - 3 * numberAt(i + 1) * before * first * behind
                    + numberAt(i + 2) * before * first * second;
            return (int) nearest(sum, 6L * q * q * q);
        }

        int boundAt(int i) {
            if (i < 1 || i >= MAX_NUMBERS) {
                return NONE;
            }
            int greatest = Math.max(fourthDifference(i - 2), fourthDifference(i - 1));
            return greatest == NONE ? NONE : (3 * greatest + 127) / 128;
        }

        /** Its size; NONE if the five numbers from a place on aren't all there. */
        private int fourthDifference(int from) {
            if (!areThere(from, from + 4)) {
                return NONE;
            }
            return Math.abs(numberAt(from) - 4 * numberAt(from + 1) + 6 * numberAt(from + 2)
                    - 4 * numberAt(from + 3) + numberAt(from + 4));
        }
    }

    /** Errata, in the order in which they were told. */
    private static final class Errata {
        private static final int MAX_ERRATA = 40;

        int came;
        final int[] tableOf = new int[MAX_ERRATA];
        final int[] entryOf = new int[MAX_ERRATA];
        final int[] isOf = new int[MAX_ERRATA];
        private final int[] shouldOf = new int[MAX_ERRATA];
        private final int[] dayOf = new int[MAX_ERRATA];

        boolean has(int number) {
            return number >= 0 && number < came && number < MAX_ERRATA;
        }

        int tell(int table, int entry, int is, int should, int day) {
            if (came >= MAX_ERRATA) {
                return NONE;
            }
            tableOf[came] = table;
            entryOf[came] = entry;
            isOf[came] = is;
            shouldOf[came] = should;
            dayOf[came] = day;
            came++;
            return came - 1;
        }

        /** What a figure became by the errata ahead of one that were told up to a day. */
        int applied(int table, int entry, int figure, int before, int day) {
            int stands = figure;
            for (int i = 0; i < before && i < came && i < MAX_ERRATA; i++) {
                boolean its = tableOf[i] == table && entryOf[i] == entry && dayOf[i] <= day;
                if (its && isOf[i] == stands) {
                    stands = shouldOf[i];
                }
            }
            return stands;
        }
    }
}
