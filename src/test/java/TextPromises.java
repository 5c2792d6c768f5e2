/** Promises 1 to 6 with part 1 of the document: texts, their faults, sheets and their values. */
final class TextPromises {
    private static final int NONE = TableHouse.NONE;

    private TextPromises() {
    }

    static void all() {
        promise1();
        constants();
        promise2();
        promise3();
        promise4();
        promise4Grammar();
        promise4Depth();
        promise4Places();
        promise5();
        promise6();
        promise6Fractions();
        promise6None();
        promise6Roots();
        promise6Choices();
    }

    static String times(String part, int many) {
        return part.repeat(many);
    }

    private static void promise1() {
        Run x = Run.of(1, "Nothing is there");
        for (int what = 0; what < 8; what++) {
            x.due("count(" + what + ")", 0);
        }
        for (int k = 0; k < 7; k++) {
            x.due("column(" + k + ")", 0);
        }
        x.due("fault()", 0).due("clear()", 0).due("turn(0)", 0);
        x.refused("sheet()", "value(0, 1, 1, 0)", "table(0, 0, 1001, 40)", "exact(0, 0)", "habit(0, 0, 12)",
                "would(0, 0, 0, 0)", "work(0, 0, 0, 0)", "figure(0, 0)", "pair(0, 0)", "engine(0, 0, 1)", "settings(0, 0)",
                "lay(0, 0, 1)", "suspects(0, 0)", "rivals(0, 0)", "middle(1, 1, 2)", "bound(2)", "set(0)", "print(0, 1)",
                "mend(0, 0)", "read(0, 0)", "erratum(0, 0, 0, 0)", "misses(0)", "known(0, 0, 0)", "rival(0, 0, 0)", "rival(0, 0, VOID)",
                "shared(0)", "copied(0)", "lead(0, 0, 0)", "lead(0, 0, 6)", "count(10)", "count(20)", "count(30)", "end(1)");
        x.due("end(0)", 1).due("hand()", 0).due("row(7)", 1);
        Run.of(1, "NOW is 0.").due("count(0)", 0).due("go(0)", 0).due("go(1)", 1);
    }

    private static void constants() {
        Document.quote(1, "The constants: NONE = -1: There is none.");
        Check.due("promise 1: NONE", TableHouse.NONE, -1);
        Document.quote(1, "VOID = -2147483648: There is none of what may be below 0.");
        Check.due("promise 1: VOID", TableHouse.VOID, -2147483648L);
    }

    private static void promise2() {
        Run.of(2, "Bytes come behind those of the TEXT")
                .due(Run.feed("x+x+x+x+x+x+x+x+x+x+"), 20).due(Run.feed("1+2+3+4+5"), 40)
                .due("sheet()", 0).due("value(0, 1, 1, 0)", 25);
        Run.of(2, "of each number the highest first (20 of them)")
                .due(Run.feed("x*2+x*3+x*4+x*5+x*61"), 20).due("count(7)", 20).due("fault()", NONE)
                .due("sheet()", 0).due("value(0, 1, 1, 0)", 75);
        Run.of(2, "of each number the highest first (20 of them)")
                .due("feed(538976511, 538976288, 538976288, 538976288, 538976288)", 20).due("fault()", 3)
                .due("end(0)", 1).due("feed(-14671840, 538976288, 538976288, 538976288, 538976288)", 20).due("fault()", 0);
        Run.of(2, "how many there are").due("feed(0, 0, 0, 0, 0)", 20).due("end(7)", 1).due("feed(0, 0, 0, 0, 0)", 27)
                .due("end(0)", 1).due("feed(-1, -1, -1, -1, -1)", 20);
        Run x = Run.of(2, "NONE if there would be more than 200.");
        for (int i = 1; i <= 10; i++) {
            x.due(Run.feed("x+x+x+x+x+x+x+x+x+x+"), 20 * i);
        }
        x.refused("feed(0, 0, 0, 0, 0)").due("count(7)", 200).due("fault()", 200);
        x.due("end(181)", 1).refused("feed(538976288, 0, 0, 0, 0)").due("count(7)", 181).due("fault()", NONE);
        x.due("end(180)", 1).due(Run.feed("x"), 200).due("fault()", NONE).due("sheet()", 0).due("value(0, 1, 1, 0)", 91);
        x.due(Run.feed("x"), 20);
        Run full = Run.of(2, "TEXTS of at most 200 bytes").text(times("x-", 99) + "x ").due("count(7)", 200);
        full.refused("feed(0, 0, 0, 0, 0)").due("sheet()", 0).due("value(0, 1, 1, 0)", -98);
    }

    private static void promise3() {
        Run.of(3, "The TEXT has its first n bytes alone: true").text("x+1+2+3").due("end(7)", 1).due("count(7)", 7)
                .due("end(3)", 1).due("count(7)", 3).due(Run.feed(""), 23).due("sheet()", 0).due("value(0, 1, 1, 0)", 2);
        Run.of(3, "The TEXT has its first n bytes alone: true").text("x").due("end(0)", 1).due("count(7)", 0).due("fault()", 0)
                .due("end(0)", 1);
        Run.of(3, "false if it has not so many").refused("end(1)").text("x+1").refused("end(4)", "end(20)", "end(200)", "end(GREATEST)")
                .due("end(2)", 1).refused("end(3)").due("fault()", 2);
        Run.of(3, "false if it has not so many").text(times("1+", 99) + "10").due("end(200)", 1).refused("end(201)");
        Run.of(3, "or n is below 0.").text("x+1").refused("end(-1)", "end(-3)", "end(LEAST)").due("fault()", NONE);
    }

    private static void promise4() {
        Run.of(4, "The FAULT of the TEXT.").fault("x", NONE).fault("x+", 2).due("fault()", 2).due("count(7)", 2)
                .due("end(1)", 1).due("fault()", NONE);
        String tokens = "TOKENS are words of small letters, numbers of digits, and the signs + - * / ( ) , < > = with any blanks (32) between";
        for (int b = 0; b < 256; b++) {
            String sign = String.valueOf((char) b);
            boolean letter = b >= 'a' && b <= 'z';
            boolean digit = b >= '0' && b <= '9';
            boolean goesOn = "+-*/".contains(sign);
            Run.of(4, tokens).fault("x" + sign, b == ' ' ? NONE : letter ? 0 : goesOn ? 2 : 1);
            Run.of(4, tokens).fault("1" + sign, b == ' ' || digit ? NONE : goesOn ? 2 : 1);
        }
        Run.of(4, tokens).fault("   x   +   1   ", NONE).fault("1 2", 2).fault("x x", 2).fault("ro ot x", 0)
                .fault("if 1 < 2 then 3 else 4", NONE).fault("if1<2then3else4", NONE).fault("x +\t1", 3).fault(times(" ", 199) + "x", NONE);
        Run.of(4, "words and numbers as long as can be").fault("rootx", 0).fault("root x", NONE).fault("root1", NONE).fault("rootroot 1", 0)
                .fault("xif", 0).fault("xx", 0).fault("x1", 1).fault("1x", 1).fault("ifx<2then x else 1", 0)
                .fault("if x<2thenx else 1", 6).fault("999999", NONE).fault("9999999", 0).fault("999999 9", 7);
    }

    private static void promise4Grammar() {
        Run.of(4, "A TEXT is E:").fault("x+1", NONE).fault("x+1)", 3).fault("x+1,1", 3).fault("x<1", 1).fault("x then", 2);
        Run.of(4, "E is T, any number of + T or - T;").fault("x", NONE).fault("x-x+x", NONE).fault("+x", 0).fault("x+", 2)
                .fault("x-", 2).fault("x++x", 2).fault("x+*x", 2).fault(times("x+", 99) + "x", NONE).fault(times("x+", 100), 200)
                .value("10-3-2+1", 0, 1, 6, 1).value("10-2*3", 0, 1, 4, 1);
        Run.of(4, "T is F, any number of * F or / F;").fault("x*x/x", NONE).fault("*x", 0).fault("/x", 0).fault("x*", 2).fault("x/", 2)
                .fault("x**x", 2).fault("x/+x", 2).fault(times("x*", 99) + "x", NONE).fault(times("x/", 100), 200)
                .value("100/5/2*3", 0, 1, 30, 1).value("2*3+4", 0, 1, 10, 1);
        Run.of(4, "F is a number (0 .. 999999), x,").fault("0", NONE).fault("999999", NONE).fault("1000000", 0).fault("x+1000000", 2)
                .fault(times("0", 194) + "999999", NONE).fault(times("0", 193) + "1000000", 0).fault(times("9", 200), 0)
                .fault("4294967296", 0).fault("18446744073709551617", 0).fault("y", 0).fault("X", 0).fault("-1", NONE)
                .value("999999", 0, 1, 999999, 1).value("000000", 0, 1, 0, 1).value(times("0", 199) + "7", 0, 1, 7, 1);
        Run.of(4, "( E ), - F, root F, cut F,").fault("(x+1)", NONE).fault("()", 1).fault("(x", 2).fault("(x,x)", 2).fault("(x))", 3)
                .fault("-x", NONE).fault("- -x", NONE).fault("-+x", 1).fault("-", 1).fault("x*-x", NONE).fault("x--x", NONE)
                .fault("root x", NONE).fault("root", 4).fault("root )", 5).fault("root -x", NONE).fault("cut 1", NONE).fault("cut", 3)
                .fault("cut *x", 4).fault("cut root(x)", NONE)
                .value("-x*x", 3, 1, -9, 1).value("root x*x", 4, 1, 8, 1).value("cut x*2", 7, 2, 6, 1).value("-x+x", 3, 1, 0, 1);
        Run.of(4, "least ( E , E ), most ( E , E ),").fault("least(x,1)", NONE).fault("most ( x , 1 )", NONE).fault("least", 5)
                .fault("least x", 6)
                .fault("least(", 6).fault("least(x", 7).fault("least(x)", 7).fault("least(x,", 8).fault("least(x,1", 9)
                .fault("least(x,1,2)", 9)
                .fault("most(,1)", 5).fault("most(x,)", 7).fault("most(x 1)", 7).fault("least(x+1,x*2)", NONE);
        Run.of(4, "or if E C E then E else E, where C is <, > or =.").fault("if x<1 then 1 else 2", NONE)
                .fault("if x>1 then 1 else 2", NONE)
                .fault("if x=1 then 1 else 2", NONE).fault("if x,1 then 1 else 2", 4).fault("if x then 1 else 2", 5)
                .fault("if x<=1 then 1 else 2", 5)
                .fault("if x<1=1 then 1 else 2", 6).fault("if x<1 else 2", 7).fault("if x<1 then 1 then 2", 14)
                .fault("if then 1 else 2", 3).fault("if x<then 1 else 2", 5).fault("if x<1 then else 2", 12)
                .fault("if x<1 then 1 else else", 19)
                .fault("(if x<1 then 1 else 2)*3", NONE);
    }

    private static void promise4Depth() {
        String words = "What ( , - ahead of an F, root, cut, least, most and if open is one deeper; 10 at most.";
        String[] open = {"(", "-", "root ", "cut ", "least(", "most(", "if 1<2 then "};
        String[] close = {")", "", "", "", ",1)", ",1)", " else 1"};
        for (int i = 0; i < open.length; i++) {
            Run.of(4, words).fault(times(open[i], 10) + "x" + times(close[i], 10), NONE);
            Run.of(4, words).fault(times(open[i], 11) + "x", 10 * open[i].length());
            for (int k = 0; k < open.length; k++) {
                String mixed = times(open[i], 9) + open[k] + "x" + close[k] + times(close[i], 9);
                Run.of(4, words).fault(mixed, NONE);
                Run.of(4, words).fault(times(open[i], 10) + open[k] + "x", 10 * open[i].length());
            }
        }
        Run.of(4, words).fault(times("(", 10) + "x-x" + times(")", 10), NONE).fault(times("(", 10) + "x--x" + times(")", 10), 12)
                .fault(times("-", 10) + "x-" + times("-", 10) + "x", NONE).fault(times("-", 10) + "x-" + times("-", 11) + "x", 22)
                .fault(times("(", 10) + "x" + times(")", 10) + "+" + times("(", 10) + "x" + times(")", 10), NONE)
                .fault(times("(", 9) + "if (1)<1 then 1 else 1", 12).fault(times("(", 9) + "if 1<(1) then 1 else 1", 14)
                .fault(times("(", 9) + "if 1<1 then (1) else 1", 21).fault(times("(", 9) + "if 1<1 then 1 else (1)", 28)
                .fault(times("(", 9) + "least((1),1)", 15).fault(times("(", 9) + "least(1,(1))", 17);
    }

    private static void promise4Places() {
        Run.of(4, "The FAULT is the place (from 0 on) of the first byte of the first TOKEN that can't stand there")
                .fault(")", 0).fault("  )", 2).fault("x )", 2).fault("x + then", 4).fault("x+1 else", 4).fault("x root x", 2)
                .fault("x + ) )", 4)
                .fault(times("x+", 99) + ")", 198).fault(times("x+", 99) + "x)", 199);
        Run.of(4, "(also: a number too great, what opens too deep)").fault("x + 1000000", 4).fault("1000000 )", 0)
                .fault(times("(", 10) + "  (x", 12)
                .fault(times("(", 10) + "root x", 10).fault("x 1000000", 2);
        Run.of(4, "or of a byte that begins no TOKEN, if that is ahead;").fault("?", 0).fault("x ?", 2).fault("x + ? )", 4)
                .fault("x ) ?", 2)
                .fault("x ? )", 2).fault("x+ 1000000 ?", 3).fault("x+?1000000", 2).fault("(?", 1).fault("1.5", 1).fault("x+ ?", 3);
        Run.of(4, "the length, if it ends too early;").fault("", 0).fault("   ", 3).fault("x+", 2).fault("x+  ", 4).fault("(x ", 3)
                .fault("if", 2).fault("if x", 4).fault("if x<", 5).fault("if x<1", 6).fault("if x<1 then", 11).fault("if x<1 then 1", 13)
                .fault("if x<1 then 1 else", 18).fault("if x<1 then 1 else ", 19).fault(times(" ", 200), 200).fault("most(x,x", 8);
        Run.of(4, "NONE without.").fault("x", NONE).fault(" (x) ", NONE).fault("least(1,if x<0 then -x else root x)/cut(x+1)", NONE);
    }

    private static void promise5() {
        Run.of(5, "A SHEET comes of the TEXT, which is empty then: its number").text("x+1").due("sheet()", 0).due("count(1)", 1)
                .due("count(7)", 0).due("fault()", 0).text("x+2").due("sheet()", 1).due("count(1)", 2)
                .due("value(0, 1, 1, 0)", 2).due("value(1, 1, 1, 0)", 3);
        Run.of(5, "NONE with a FAULT (it stays)").refused("sheet()").text("x+").refused("sheet()").due("count(7)", 2).due("fault()", 2)
                .due("count(1)", 0).due("end(1)", 1).due("sheet()", 0).refused("sheet()");
        Run.of(5, "A SHEET comes of a TEXT without a FAULT (at most 10).").sheet("x").text("x )").refused("sheet()").due("count(1)", 1);
        Run x = Run.of(5, "or if 10 came.");
        for (int i = 0; i < 10; i++) {
            x.text("x+" + i).due("sheet()", i);
        }
        x.text("x").refused("sheet()").due("count(7)", 1).due("count(1)", 10).text("x+").refused("sheet()").due("fault()", 2);
        for (int i = 0; i < 10; i++) {
            x.due("value(" + i + ", 5, 1, 0)", 5 + i);
        }
        x.refused("value(10, 5, 1, 0)");
    }

    private static void promise6() {
        Run.of(6, "The function of a SHEET of x, n by d (d 1 .. 1000000)").sheet("x").due("value(0, 7, 1, 0)", 7)
                .due("value(0, 7, 1, 1)", 1)
                .due("value(0, 7, 1000000, 0)", 7).due("value(0, 7, 1000000, 1)", 1000000)
                .refused("value(0, 7, 0, 0)", "value(0, 7, 1000001, 0)", "value(0, 7, -1, 0)", "value(0, 0, 0, 1)",
                        "value(0, 1000001, 1000001, 0)",
                        "value(0, 7, LEAST, 0)", "value(0, 7, GREATEST, 1)");
        Run.of(6, "its n (what 0) or d (1)").sheet("x/3").due("value(0, 5, 2, 0)", 5).due("value(0, 5, 2, 1)", 6);
        Run.of(6, "VOID if it or x is NONE, there is none such, or of others.").sheet("1/x").sheet("7")
                .refused("value(0, 0, 1, 0)", "value(0, 0, 1, 1)").due("value(1, 1000000000, 1, 0)", 7)
                .due("value(1, -1000000000, 1, 0)", 7)
                .refused("value(1, 1000000001, 1, 0)", "value(1, -1000000001, 1, 0)", "value(1, GREATEST, 1, 0)", "value(1, LEAST, 1, 1)")
                .due("value(1, 2000000000, 2, 0)", 7).due("value(1, LEAST, 4, 0)", 7)
                .refused("value(2, 1, 1, 0)", "value(-1, 1, 1, 0)", "value(LEAST, 1, 1, 0)", "value(GREATEST, 1, 1, 0)")
                .refused("value(0, 1, 1, 2)", "value(0, 1, 1, -1)", "value(0, 1, 1, LEAST)", "value(0, 1, 1, GREATEST)");
    }

    private static void promise6Fractions() {
        Run.of(6, "FRACTIONS are n by d, without a common divisor, d above 0,").value("x", 6, 4, 3, 2).value("x", -6, 4, -3, 2)
                .value("x", 0, 7, 0, 1)
                .value("1/-x", 2, 1, -1, 2).value("1/x", -2, 3, -3, 2).value("1/2+1/6", 0, 1, 2, 3).value("x*2", 1, 2, 1, 1)
                .value("x-x", 5, 3, 0, 1);
        Run.of(6, "n from -1000000000 to 1000000000,").value("x", 1000000000, 1, 1000000000, 1).value("x", -1000000000, 1, -1000000000, 1)
                .noValue("x", 1000000001, 1).noValue("x", -1000000001, 1).value("x*1000", 1000000, 1, 1000000000, 1)
                .noValue("x*1000+1", 1000000, 1)
                .value("-x*1000", 1000000, 1, -1000000000, 1).noValue("-x*1000-1", 1000000, 1).value("-x", -1000000000, 1, 1000000000, 1)
                .noValue("x*x", 31623, 1).value("x*x", 31622, 1, 999950884, 1).noValue("x*x", 1000000000, 1)
                .noValue("x/(1/x)", 1000000000, 1)
                .value("x/2*2", 1000000000, 1, 1000000000, 1).noValue("x+x", 1000000000, 1).value("x-x", 1000000000, 1, 0, 1);
        Run.of(6, "d to 1000000000;").value("x/1000", 1, 1000000, 1, 1000000000).noValue("x/1001", 1, 1000000)
                .value("1/x", 1000000000, 1, 1, 1000000000)
                .noValue("1/x/2", 1000000000, 1).value("1/x*2", 1000000000, 1, 1, 500000000).noValue("x*x", 1, 31623)
                .value("x*x", 1, 31622, 1, 999950884)
                .noValue("x+1/1003", 1, 999999).noValue("1/x-1/(x-1)", 1000000000, 1);
        Run.of(6, "NONE is none.").noValue("1/0", 0, 1);
        Run.of(6, "What comes out beyond that, or by 0, or of NONE, is NONE.").noValue("x*1000+1-1", 1000000, 1)
                .noValue("x*1001/1001", 1000000, 1)
                .noValue("x/1001*1001", 1, 1000000).noValue("1/x", 0, 1).noValue("0/x", 0, 1).noValue("x/(x-x)", 5, 1)
                .noValue("0*(1/x)", 0, 1).noValue("1/x+1", 0, 1).noValue("1-1/x", 0, 1).noValue("1/(1/x)", 0, 1).noValue("(1/x)/2", 0, 1)
                .noValue("-(1/x)", 0, 1).noValue("cut(1/x)", 0, 1).noValue("root(1/x)", 0, 1).noValue("1/x-1/x", 0, 1);
    }

    /** Whatever NONE comes of, and whatever it goes into, NONE comes out; at x 0. */
    private static void promise6None() {
        String[] nones = {
            "(1/x)", "root(x-1)", "(999999*999999)", "(1/999999/999999)", "cut(1/x)", "least(1,1/x)", "most(1/x,1)", "(0-1000*1000*1000-1)",
            "(if 1/x<1 then 1 else 2)", "(if 1=1/x then 1 else 2)", "(if x=0 then 1/x else 1)", "(if x>0 then 1 else 1/x)", "(-(1/x))",
        };
        String[] into = {
            "?+1", "1+?", "?-1", "1-?", "?*0", "0*?", "?/1", "1/?", "0/?", "-?", "root ?", "cut ?", "least(?,1)", "least(1,?)", "most(?,1)",
                    "most(1,?)",
            "if ?<1 then 1 else 2", "if 1>? then 1 else 2", "if ?=? then 1 else 2", "if x=0 then ? else 1", "if x=1 then 1 else ?", "5-2*?",
                    "?-?", "?/?",
        };
        Run x = Run.of(6, "What comes out beyond that, or by 0, or of NONE, is NONE.");
        for (String none : nones) {
            for (String text : into) {
                x.noValue(text.replace("?", none), 0, 1);
            }
        }
        for (int i = 0; i < 30; i++) {
            Run.of(6, "(NONE compared: NONE comes out).").noValue("if 1/x<-" + i + " then 1+2 else 2+3", 0, 1)
                    .noValue("if " + i + ">1/x then 1+2 else 2+3", 0, 1);
        }
    }

    private static void promise6Roots() {
        Run.of(6, "root of n by d (0 or more; else NONE):").value("root x", 0, 1, 0, 1).noValue("root x", -1, 1000000)
                .noValue("root x", -4, 1)
                .value("root x", 1, 1000000, 0, 1).noValue("root x", -1000000000, 1);
        Run.of(6, "the greatest whole number whose square isn't above n * 10000 by d, by 100.").value("root x", 2, 1, 141, 100)
                .value("root x", 4, 1, 2, 1).value("root x", 1, 4, 1, 2).value("root x", 1, 10000, 1, 100).value("root x", 1, 10001, 0, 1)
                .value("root x", 9999, 1, 9999, 100).value("root x", 10000, 1, 100, 1).value("root x", 20164, 10000, 71, 50)
                .value("root x", 20163, 10000, 141, 100).value("root x", 1000000000, 1, 3162277, 100).value("root x", 3, 10000, 1, 100)
                .value("root x", 4, 10000, 1, 50).value("root root x", 2, 1, 59, 50);
        Run.of(6, "cut: the greatest whole number that isn't above it.").value("cut x", 7, 2, 3, 1).value("cut x", -7, 2, -4, 1)
                .value("cut x", 4, 1, 4, 1).value("cut x", -4, 1, -4, 1).value("cut x", 1, 1000000, 0, 1).value("cut x", -1, 1000000, -1, 1)
                .value("cut x", 0, 1, 0, 1).value("cut x", 999999, 1000000, 0, 1).value("cut x", -1000000000, 1, -1000000000, 1)
                .value("cut x", 1000000000, 1, 1000000000, 1);
    }

    private static void promise6Choices() {
        String words = "if: the first E after then, if it holds, else the other one;";
        for (int c = 0; c < 3; c++) {
            String text = "if x" + "<=>".charAt(c) + "1/2 then 0 else 2";
            for (int n = 0; n < 3; n++) {
                Run.of(6, words).value(text, n, 2, c == 0 ? (n < 1 ? 0 : 2) : c == 1 ? (n == 1 ? 0 : 2) : (n > 1 ? 0 : 2), 1);
            }
        }
        Run.of(6, words).value("if x<1/3 then 1 else 2", 333333, 1000000, 1, 1).value("if x>1/3 then 1 else 2", 333333, 1000000, 2, 1)
                .value("if x=1000*1000 then 1 else 2", 1000000000, 1000, 1, 1).value("if -x<x then 1 else 2", 1000000000, 1, 1, 1)
                .value("if x<1 then 10 else 20+5", 0, 1, 10, 1).value("if x<1 then 10 else 20+5", 1, 1, 25, 1)
                .value("(if x<1 then 10 else 20)+5", 0, 1, 15, 1).value("if x<1 then if x<0 then 1 else 2 else 3", 0, 1, 2, 1);
        Run.of(6, "only that one is worked out").value("if x=0 then 7 else 1/x", 0, 1, 7, 1).value("if x>0 then 1/x else 7", 0, 1, 7, 1)
                .noValue("if x<1 then 1/x else 7", 0, 1).noValue("if x>1 then 7 else 1/x", 0, 1)
                .value("if x=0 then 7 else root(x-1)", 0, 1, 7, 1).value("3+if x=0 then 7 else 1/x", 0, 1, 10, 1);
        Run.of(6, "(NONE compared: NONE comes out).").noValue("if 1/x<0 then 1 else 2", 0, 1).noValue("if 0=1/x then 1 else 2", 0, 1)
                .noValue("if 1/x=1/x then 1 else 2", 0, 1).noValue("7+if 1/x>0 then 1 else 2", 0, 1)
                .noValue("if 0>root x then 1 else 2", -1, 1);
        Run.of(6, "All others are worked out first, from the left.").noValue("least(1, 1/x)", 0, 1).noValue("least(1/x, 1)", 0, 1)
                .noValue("most(1, 1/x)", 0, 1).noValue("most(1/x, 1)", 0, 1).noValue("0*(1/x)", 0, 1).noValue("x*x*0", 1000000, 1)
                .value("0*x*x", 1000000, 1, 0, 1).noValue("x+x-x", 1000000000, 1).value("x-x+x", 1000000000, 1, 1000000000, 1)
                .value("least(x, 2/3)", 3, 4, 2, 3).value("most(x, 2/3)", 3, 4, 3, 4).value("least(2/3, x)", 3, 4, 2, 3)
                .value("most(x, x)", 3, 4, 3, 4)
                .value("least(-x, x)", 1000000000, 1, -1000000000, 1).value("most(-x, x)", 1000000000, 1, 1000000000, 1)
                .value("least(x, 1/x)", 1000000000, 1, 1, 1000000000);
    }
}
