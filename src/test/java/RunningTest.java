/** Terms II, by promises 12, 21, 23 and 24: numbers, operators, members, LOCALS, STEPS, what is THROWN. */
public final class RunningTest {
    private static final Check check = new Check();

    public static void main(String[] args) {
        operators();
        rows();
        statements();
        members();
        argumentsWithin();
        callsWithin();
        ownPlaces();
        steps();
        nesting();
        thrown();
        check.end();
    }

    /** What a member with this block gives, on a new object of a class with x = 3, y = -7, r = 4 5 6 told so. */
    private static TrialGarden done(String block) {
        TrialGarden g = check.garden("class a { int x = 3; int y = -7; int r[3] = 4; member yes() { x = x + 1; return 1; } member no() { y = y + 1; return 0; } "
            + "member go() throws zero; throws index; throws w; { " + block + " } }");
        g.make(0);
        g.call(0, 2, 0, 0, 0);
        g.run();
        return g;
    }

    private static void gives(String ex, long due) {
        TrialGarden g = done("return " + ex + ";");
        check.is(ex, g.told(1, 5), due);
        check.is(ex + " is done", g.told(1, 6), 1);
    }

    private static void throwsWord(String block, String word) {
        TrialGarden g = done(block);
        check.same(block, Check.thrown(g), word);
        check.is(block + " THREW", g.told(1, 6), 2);
        check.is(block + " gave", g.told(1, 5), 0);
    }

    private static void operators() {
        gives("2 + 3 * 4", 14);
        gives("2 * 3 + 4", 10);
        gives("(2 + 3) * 4", 20);
        gives("10 - 3 - 2", 5);
        gives("100 / 7 / 2", 7);
        gives("100 % 7 * 2", 4);
        gives("y / 2", -3);
        gives("y % 2", -1);
        gives("7 / -2", -3);
        gives("7 % -2", 1);
        gives("- 2 * - 3", 6);
        gives("-x + 1", -2);
        gives("!x + 1", 1);
        gives("!!x", 1);
        gives("!0", 1);
        gives("- - 5", 5);
        gives("1 < 2 == 1", 1);
        gives("3 > 2 > 1", 0);
        gives("5 == 5 == 5", 0);
        gives("2 <= 2", 1);
        gives("2 >= 3", 0);
        gives("3 >= 3", 1);
        gives("2 < 2", 0);
        gives("2 > 2", 0);
        gives("7 || 0", 1);
        gives("5 + (7 || 0)", 6);
        gives("2 != 3", 1);
        gives("2 != 2", 0);
        gives("1 || 0 && 0", 1);
        gives("5 && 7", 1);
        gives("0 || 7", 1);
        gives("0 || 0", 0);
        gives("5 && 0", 0);
        gives("1 == 1 && 2 == 2", 1);
        gives("1 + 1 == 2", 1);
        gives("999999999 * 999999999", (int) (999999999L * 999999999L));
        gives("999999999 + 999999999 + 999999999", (int) 2999999997L);
        gives("-2 * 536870912 * 2 / -1", Integer.MIN_VALUE);
        gives("-2 * 536870912 * 2 % -1", 0);
        gives("0 - 2 * 536870912 * 2 - 1", Integer.MAX_VALUE);
        gives("size(r) + r[0]", 7);
        // The right one is worked out only if it is needed; operands from the left.
        check.is("0 && ..", done("return 0 && yes();").cell(0, 0), 3);
        check.is("1 && ..", done("return 1 && yes();").cell(0, 0), 4);
        check.is("1 || ..", done("return 1 || yes();").cell(0, 0), 3);
        check.is("0 || ..", done("return no() || yes();").cell(0, 0), 4);
        gives("x + yes() * x", 3 + 4);
        gives("yes() + x", 5);
        gives("0 && 1 / 0", 0);
        gives("5 - (0 && 1)", 5);
        gives("5 - (1 || 0)", 4);
        gives("5 - (2 && 3)", 4);
        gives("5 - (0 || 0)", 5);
    }

    private static void rows() {
        TrialGarden g = done("r[0] = 7; r[2] = r[0] + 1; r[r[1] - 3] = 9;");
        check.is("r[0]", g.cell(0, 2), 7);
        check.is("r[1]", g.cell(0, 3), 9);
        check.is("r[2]", g.cell(0, 4), 8);
        throwsWord("return r[3];", "index");
        throwsWord("return r[-1];", "index");
        throwsWord("r[3] = 1;", "index");
        throwsWord("return 1 / 0;", "zero");
        throwsWord("return 1 % (x - 3);", "zero");
        throwsWord("throw w;", "w");
        // the [ ] first, then the ex
        throwsWord("r[3] = 1 / 0;", "index");
        check.is("not worked out behind index", done("r[3] = yes();").cell(0, 0), 3);
        check.is("what is in [ ] is worked out first", done("r[x - 3] = yes();").cell(0, 2), 1);
        check.is("what was set ahead stays", done("x = 9; throw w;").cell(0, 0), 9);
        check.is("nothing behind", done("throw w; x = 9;").cell(0, 0), 3);
    }

    private static void statements() {
        check.is("no return", done("x = 5;").told(1, 5), 0);
        check.is("what is behind an else", done("if 1 { x = 5; } else { x = 6; } return x + 1;").told(1, 5), 6);
        check.is("what is behind an else that is done", done("if 0 { x = 5; } else { x = 6; } return x + 1;").told(1, 5), 7);
        check.is("what is behind a while", done("while x < 5 { x = x + 1; } x = x * 2; return x;").told(1, 5), 10);
        check.is("return ends it", done("return 1; x = 9;").cell(0, 0), 3);
        check.is("a return within", done("while 1 { if x > 5 { return x; } x = x + 1; }").told(1, 5), 6);
        check.is("if", done("if x == 3 { return 1; } else { return 2; }").told(1, 5), 1);
        check.is("else", done("if x != 3 { return 1; } else { return 2; }").told(1, 5), 2);
        check.is("if without else", done("if 0 { return 1; } return 3;").told(1, 5), 3);
        check.is("if within else", done("if 0 { } else { if 0 { return 1; } else { return 2; } }").told(1, 5), 2);
        check.is("while", done("let s = 0; let i = 0; while i < 5 { i = i + 1; s = s + i; } return s;").told(1, 5), 15);
        check.is("a LOCAL begins at 0", done("let s = s + 4; return s;").told(1, 5), 4);
        check.is("each time", done("let i = 0; let s = 0; while i < 3 { let k = k + 5; s = s + k; i = i + 1; } return s;").told(1, 5), 15);
        check.is("LOCALS of two blocks", done("let s = 0; if 1 { let a = 3; s = a; } if 1 { let b = b + 1; s = s * 10 + b; } return s;").told(1, 5), 31);
    }

    private static void members() {
        TrialGarden g = check.garden("class a { int x; member f(p in 0 .. 9) { p = p + 1; return p * 10; } member g(p in 0 .. 9, q in 0 .. 9) { let s = f(p) + f(q); return s + p + q; } "
            + "member h() { return 1; } member k() { return h() * 100; } member top() { return 7; } } "
            + "class b above a { member h() { return above.h() + 1; } member top() { return above.top() + 10; } } "
            + "class c above b { member h() { return above.h() + 1; } member l() { return above.k() + h(); } }");
        g.make(0);
        g.call(0, 1, 2, 4, 0);
        g.call(0, 3, 0, 0, 0);
        g.make(1);
        g.call(1, 3, 0, 0, 0);
        g.make(2);
        g.call(2, 3, 0, 0, 0);
        g.call(2, 5, 0, 0, 0);
        g.call(2, 4, 0, 0, 0);
        check.is("run", g.run(), 0);
        check.is("arguments are the caller's own", g.told(1, 5), 30 + 50 + 6);
        check.is("a's own", g.told(2, 5), 100);
        check.is("OVERRIDDEN dynamically", g.told(4, 5), 200);
        check.is("twice", g.told(6, 5), 300);
        check.is("above. is static, what it calls is not", g.told(7, 5), 303);
        check.is("a member of above two up", g.told(8, 5), 17);
        g = check.garden("class a { int x; int y; int z; member one() { x = x + 1; } member two(p in 0 .. 9) { y = y + p; } member three(p in 0 .. 9, q in 0 .. 9) { z = z + 10 * p + q; } member all_of() { two(3); one(); three(4, 5); one(); two(1); } } "
            + "class b above a { member one() { x = x + 100; } member two(p in 0 .. 9) { above.three(1, 2); above.two(p); above.one(); one(); } }");
        g.make(0);
        g.call(0, 3, 0, 0, 0);
        g.make(1);
        g.call(1, 1, 7, 0, 0);
        check.is("calls that are st", g.run(), 0);
        long[][] due = {{2, 4, 45}, {101, 7, 12}};
        for (int o = 0; o < 2; o++) {
            for (int k = 0; k < 3; k++) {
                check.is("cell(" + o + ", " + k + ")", g.cell(o, k), due[o][k]);
            }
        }
    }

    /** Three params and eight LOCALS of each of twenty members in one another are their own. */
    private static void ownPlaces() {
        StringBuilder lets = new StringBuilder();
        StringBuilder sum = new StringBuilder("a + b + c");
        for (int i = 0; i < 8; i++) {
            lets.append("let l").append(i).append(" = a + ").append(i).append("; ");
            sum.append(i % 4 == 0 ? " + (0" : "").append(" + l").append(i).append(i % 4 == 3 ? ")" : "");
        }
        TrialGarden g = check.garden("class a { int broken; member deep(a in 0 .. 99, b in 0 .. 99, c in 0 .. 99) { " + lets
            + "if a > 1 { deep(a - 1, 5, 6); } if " + sum + " != 9 * a + b + c + 28 { broken = broken + 1; } } }");
        g.make(0);
        g.call(0, 0, 20, 50, 60);
        check.is("run", g.run(), 0);
        check.is("all as they were", g.cell(0, 0), 0);
    }

    private static void callsWithin() {
        TrialGarden g = check.garden("class a { member one() { return 5; } member two() { one(); one(); return 2; } member three() { return 100 + two() * two(); } }");
        g.make(0);
        g.call(0, 2, 0, 0, 0);
        check.is("run", g.run(), 0);
        check.is("what a st's call gives is gone", g.told(1, 5), 104);
    }

    private static void argumentsWithin() {
        TrialGarden g = check.garden("class a { int x; member f(p in 0 .. 9) { p = p + 1; return p * 10; } member g(p in 0 .. 9, q in 0 .. 9) { let s = f(p) + f(q); return s + p + q; } } "
            + "class b above a { member only_b() { f(1); return g(f(0), above.f(1)); } }");
        g.make(1);
        g.call(0, 2, 0, 0, 0);
        check.is("run", g.run(), 0);
        check.is("arguments of calls in calls", g.told(1, 5), (10 + 1) * 10 + (20 + 1) * 10 + 10 + 20);
    }

    private static void steps() {
        // two st, and each turn of the while two STEPS, and a last test
        String loop = "class a { member go(n in 0 .. 999) { let i = 0; while i < n { i = i + 1; } } member more(n in 0 .. 999) { let i = 0; while i < n { i = i + 1; } return i; } ";
        TrialGarden g = check.garden(loop + "}");
        g.make(0);
        g.call(0, 0, 148, 0, 0);
        check.is("299 STEPS", g.run(), 0);
        g.call(0, 1, 148, 0, 0);
        check.is("300 STEPS, each CALL anew", g.run(), 0);
        check.is("gave", g.told(2, 5), 148);
        g.call(0, 0, 149, 0, 0);
        check.is("301 STEPS", g.run(), 8);
        check.is("SPENT", g.told(3, 6), 2);
        check.is("gave nothing", g.told(3, 5), 0);
        check.is("nothing THROWN", g.thrown(0), -1);
        // a call by an ex is a STEP, one by a st that is a call is not; arguments are ex
        String calls = "class a { member e() { } member st(n in 0 .. 999) { let i = 0; while i < n { e(); i = i + 1; } } "
            + "member ex(n in 0 .. 999) { let i = 0; while i < n { i = i + 1 + e(); } } member w(p in 0 .. 9) { } member arg(n in 0 .. 999) { let i = 0; while i < n { w(e()); i = i + 1; } } }";
        check.is("2 + 1 + 3 * 99", spent(calls, 1, 99), 0);
        check.is("2 + 1 + 3 * 100", spent(calls, 1, 100), 8);
        check.is("ex: 2 + 1 + 3 * 99", spent(calls, 2, 99), 0);
        check.is("ex: 2 + 1 + 3 * 100", spent(calls, 2, 100), 8);
        String given = "class a { member w(p in 0 .. 9) { } member by(n in 0 .. 999) { let i = 0; while i < n { i = i + 1 + w(i); } } }";
        check.is("with arguments: 2 + 1 + 3 * 99", spent(given, 1, 99), 0);
        check.is("with arguments: 2 + 1 + 3 * 100", spent(given, 1, 100), 8);
        check.is("arg: 2 + 1 + 4 * 74", spent(calls, 4, 74), 0);
        check.is("arg: 2 + 1 + 4 * 75", spent(calls, 4, 75), 8);
        // an if is a st
        String ifs = "class a { member go(n in 0 .. 999) { let i = 0; while i < n { if 1 { } i = i + 1; } } }";
        check.is("if: 2 + 1 + 3 * 99", spent(ifs, 0, 99), 0);
        check.is("if: 2 + 1 + 3 * 100", spent(ifs, 0, 100), 8);
    }

    private static int spent(String text, int member, int n) {
        TrialGarden g = check.garden(text);
        g.make(0);
        g.call(0, member, n, 0, 0);
        return g.run();
    }

    private static void nesting() {
        String deep = "class a { member deep(k in 0 .. 40) { if k > 1 { return deep(k - 1) + 1; } return 1; } member by(k in 0 .. 40) { if k > 1 { by(k - 1); } } "
            + "member pd(k in 0 .. 40) pure; { if k > 1 { return pd(k - 1) + 1; } return 1; } member ask(k in 0 .. 40) gives pd(k) == k; { } }";
        check.is("20 in one another", spent(deep, 0, 20), 0);
        check.is("21 in one another", spent(deep, 0, 21), 8);
        check.is("20 by st", spent(deep, 1, 20), 0);
        check.is("21 by st", spent(deep, 1, 21), 8);
        check.is("20 in a condition", spent(deep, 3, 20), 0);
        check.is("21 in a condition", spent(deep, 3, 21), 7);
        check.is("a thing without end", spent("class a { member m(p in 0 .. 9) { m(p); } }", 0, 1), 8);
        check.is("another", spent("class a { member m(p in 0 .. 9) { while 1 { } } }", 0, 1), 8);
    }

    private static void thrown() {
        TrialGarden g = check.garden("class a { int x; member deep(k in 0 .. 9) throws long_word_12; { x = x + 1; if k > 0 { deep(k - 1); x = 99; } throw long_word_12; } member q() throws index; { let r = 1 + deep(2); x = 50; } }");
        g.make(0);
        g.call(0, 0, 3, 0, 0);
        check.is("run", g.run(), 0);
        check.is("it goes out through all", g.cell(0, 0), 4);
        check.same("thrown", Check.thrown(g), "long_word_12");
        check.is("thrown(12)", g.thrown(12), -1);
        check.is("thrown(-1)", g.thrown(-1), -1);
        check.is("thrown(maximum)", g.thrown(Integer.MAX_VALUE), -1);
        g.call(0, 1, 0, 0, 0);
        check.is("another WORD than told", g.run(), 3);
        check.is("out through an ex", g.cell(0, 0), 7);
        g.clear();
        g.make(0);
        g.run();
        check.is("nothing THROWN in the latest run", g.thrown(0), -1);
    }
}
