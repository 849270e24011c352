/** Terms II: each sentence on running that has a boundary. */
public final class EdgesOfRunningTest {
    private static final Check check = new Check();
    private static final String MAX = "(999999999 + 999999999 + 147483649)";
    private static final String MIN = "(-" + MAX + " - 1)";

    public static void main(String[] args) {
        goRound();
        truth();
        comparisons();
        onlyIfNeeded();
        division();
        byZero();
        cellOfRow();
        operandsFromLeft();
        assignmentOrder();
        beginAtNought();
        dynamicCalls();
        callsAbove();
        returnEnds();
        thrownGoesOut();
        stepsOfCall();
        stepsOfCondition();
        stepsBeside();
        nested();
        nestedInCondition();
        objects();
        firstNumbers();
        conditionsSeeFields();
        conditionsSeeParams();
        oldSees();
        whenSees();
        impure();
        bad();
        check.end();
    }

    /** A new object with x = 3, y = -7, r = 4 4 4, on which a member with this block was called. */
    private static TrialGarden done(String block) {
        TrialGarden g = check.garden("class a { int x = 3; int y = -7; int r[3] = 4; member yes() { x = x + 1; return 1; } member no() { y = y + 1; return 0; } "
            + "member go() throws zero; throws index; throws w; { " + block + " } }");
        Check.put(g, "m0 0.2");
        g.run();
        return g;
    }

    private static void gives(String ex, long due) {
        TrialGarden g = done("return " + ex + ";");
        check.is(ex, g.told(1, 5), due);
        check.is(ex + " is done", g.told(1, 6), 1);
    }

    private static void throwsWord(String block, String word) {
        TrialGarden g = done(block);
        check.same(block, Check.thrown(g), word);
        check.is(block + " THREW", g.told(1, 6), word.isEmpty() ? 1 : 2);
    }

    private static void goRound() {
        check.sentence("Numbers have 32 bits, going round");
        gives(MAX, Integer.MAX_VALUE);
        gives(MAX + " - 1", Integer.MAX_VALUE - 1);
        gives(MAX + " + 1", Integer.MIN_VALUE);
        gives(MIN, Integer.MIN_VALUE);
        gives(MIN + " + 1", Integer.MIN_VALUE + 1);
        gives(MIN + " - 1", Integer.MAX_VALUE);
        gives("-" + MIN, Integer.MIN_VALUE);
        gives("-" + MAX, -Integer.MAX_VALUE);
        gives(MIN + " * -1", Integer.MIN_VALUE);
        gives(MIN + " / -1", Integer.MIN_VALUE);
        gives(MIN + " % -1", 0);
        gives(MAX + " / -1", -Integer.MAX_VALUE);
        gives("65536 * 32767", 65536 * 32767);
        gives("65536 * 32768", Integer.MIN_VALUE);
        gives("65536 * 65535", -65536);
        gives("65536 * 65536", 0);
        gives("65536 * 65537", 65536);
        gives(MAX + " < " + MAX + " + 1", 0);
        gives(MIN + " - 1 > " + MIN, 1);
        TrialGarden g = done("x = " + MAX + " + x; y = " + MIN + " + y;");
        check.is("a CELL", g.cell(0, 0), Integer.MIN_VALUE + 2);
        check.is("another CELL", g.cell(0, 1), Integer.MAX_VALUE - 6);
    }

    private static void truth() {
        check.sentence("true is what is not 0");
        String[] numbers = {"-1", "0", "1", "2", MIN, MAX, "256", "65536"};
        for (String number : numbers) {
            int due = number.equals("0") ? 0 : 1;
            check.is("if " + number, done("if " + number + " { return 1; } else { return 0; }").told(1, 5), due);
            check.is("while " + number, done("while " + number + " { return 1; } return 0;").told(1, 5), due);
            gives("!" + number, 1 - due);
            gives(number + " && 1", due);
            gives("1 && " + number, due);
            gives(number + " || 0", due);
            gives("0 || " + number, due);
            check.ran("class a { kept " + number + "; }", "m0", due == 1 ? 0 : 2);
            check.ran("class a { member m() needs " + number + "; { } }", "m0 0.0", due == 1 ? 0 : -1);
            check.ran("class a { member m() gives " + number + "; { } }", "m0 0.0", due == 1 ? 0 : 1);
            check.ran("class a { member m() throws w when " + number + "; { throw w; } }", "m0 0.0", due == 1 ? 0 : 3);
        }
    }

    private static void comparisons() {
        check.sentence("comparisons, !, && and || give 1 or 0");
        String[] operators = {"==", "!=", "<", "<=", ">", ">="};
        int[][] due = {{0, 1, 0}, {1, 0, 1}, {1, 0, 0}, {1, 1, 0}, {0, 0, 1}, {0, 1, 1}};
        String[][] three = {{"2", "3", "4"}, {"-4", "-3", "-2"}, {"-1", "0", "1"}};
        for (int i = 0; i < operators.length; i++) {
            for (String[] numbers : three) {
                for (int k = 0; k < 3; k++) {
                    gives(numbers[k] + " " + operators[i] + " " + numbers[1], due[i][k]);
                }
            }
            gives(MIN + " " + operators[i] + " " + MAX, due[i][0]);
            gives(MAX + " " + operators[i] + " " + MAX, due[i][1]);
            gives(MAX + " " + operators[i] + " " + MIN, due[i][2]);
        }
        gives("!0", 1);
        gives("!7", 0);
        gives("!-7", 0);
        gives("7 && 9", 1);
        gives("7 && 0", 0);
        gives("7 || 9", 1);
        gives("0 || 9", 1);
        gives("0 || 0", 0);
        gives("10 + (7 && 9)", 11);
        gives("10 + (7 || 9)", 11);
    }

    private static void onlyIfNeeded() {
        check.sentence("these two work out the right one only if it is needed");
        String[] ex = {"0 && yes()", "1 && yes()", "-1 && yes()", "0 || yes()", "1 || yes()", "-1 || yes()", "0 && yes() || yes()", "1 || yes() && yes()", "0 && (yes() || yes())"};
        int[] times = {0, 1, 1, 1, 0, 0, 1, 0, 0};
        for (int i = 0; i < ex.length; i++) {
            check.is("yes() by " + ex[i], done("return " + ex[i] + ";").cell(0, 0), 3 + times[i]);
        }
        throwsWord("return 0 && 1 / 0;", "");
        throwsWord("return 1 && 1 / 0;", "zero");
        throwsWord("return 1 || r[3];", "");
        throwsWord("return 0 || r[3];", "index");
        throwsWord("return 0 * (1 / 0);", "zero");
    }

    private static void division() {
        check.sentence("/ towards 0, % with the sign of the left one");
        for (int left : new int[] {-7, -6, -1, 0, 1, 6, 7}) {
            for (int right : new int[] {-8, -7, -2, -1, 1, 2, 7, 8}) {
                int whole = Math.abs(left) / Math.abs(right);
                int rest = Math.abs(left) - whole * Math.abs(right);
                gives(left + " / " + right, left < 0 == right < 0 ? whole : -whole);
                gives(left + " % " + right, left < 0 ? -rest : rest);
            }
        }
    }

    private static void byZero() {
        check.sentence("by 0 zero is THROWN");
        for (String operator : new String[] {"/", "%"}) {
            for (String left : new String[] {"7", "0", "-7", MIN}) {
                throwsWord("return " + left + " " + operator + " 0;", "zero");
                throwsWord("return " + left + " " + operator + " (x - 3);", "zero");
                throwsWord("return " + left + " " + operator + " 1;", "");
                throwsWord("return " + left + " " + operator + " -1;", "");
            }
        }
        check.is("it gave nothing", done("return 1 / 0;").told(1, 5), 0);
    }

    private static void cellOfRow() {
        check.sentence("a CELL of a ROW that isn't there: index is [THROWN]");
        for (int size : new int[] {1, 2, 7, 8}) {
            TrialGarden g = check.garden("class a { int low = 11; int r[" + size + "]; int high = 22; member get(i in -999999999 .. 999999999) throws index; { return r[i] + 100; } "
                + "member set(i in -999999999 .. 999999999) throws index; { r[i] = i + 1; return 5; } }");
            for (int i : new int[] {-999999999, -2, -1, 0, size - 1, size, size + 1, 8, 999999999}) {
                boolean there = i >= 0 && i < size;
                check.ran(g, "m0 0.1(" + i + ") 0.0(" + i + ")", 0);
                check.same("index " + i + " of " + size, Check.thrown(g), there ? "" : "index");
                check.is("set " + i, g.told(1, 5), there ? 5 : 0);
                check.is("get " + i, g.told(2, 5), there ? 101 + i : 0);
                check.is("the CELL ahead", g.cell(0, 0), 11);
                check.is("the CELL behind", g.cell(0, size + 1), 22);
                for (int k = 0; k < size; k++) {
                    check.is("CELL " + k, g.cell(0, k + 1), there && k == i ? i + 1 : 0);
                }
            }
        }
        throwsWord("return r[" + MIN + "];", "index");
        throwsWord("return r[" + MAX + "];", "index");
        for (int i = -1; i <= 2; i++) {
            TrialGarden g = check.ran("class a { int r[2] = 5; member m(i in -1 .. 2) gives old(r[i]) == 5; { } }", "m0 0.0(" + i + ")", i < 0 || i > 1 ? 7 : 0);
            check.same("old(r[" + i + "])", Check.thrown(g), i < 0 || i > 1 ? "index" : "");
        }
    }

    private static void operandsFromLeft() {
        check.sentence("Operands from the left");
        gives("x + yes() * 10 + x", 3 + 10 + 4);
        gives("yes() + x", 5);
        gives("x - yes()", 2);
        gives("x == yes() + 2", 1);
        gives("r[no()] + y", 4 - 6);
        gives("y + r[no()]", 4 - 7);
        throwsWord("return 1 / 0 + r[3];", "zero");
        throwsWord("return r[3] + 1 / 0;", "index");
        throwsWord("return r[1 / 0];", "zero");
        TrialGarden g = check.ran("class a { int x; member up() { x = x + 1; return x; } member f(p in 0 .. 9, q in 0 .. 9, r in 0 .. 9) { return p * 100 + q * 10 + r; } "
            + "member go() { return f(up(), up(), up()); } member st() { f(up(), x, up()); return x; } }", "m0 0.2 0.3", 0);
        check.is("arguments too", g.told(1, 5), 123);
        check.is("of a st too", g.told(2, 5), 5);
    }

    private static void assignmentOrder() {
        check.sentence("in an assignment the [ ] first, then the ex");
        check.is("r[x - 3] with yes() behind", done("r[x - 3] = yes() + 6;").cell(0, 2), 7);
        check.is("it is not r[1]", done("r[x - 3] = yes() + 6;").cell(0, 3), 4);
        check.is("yes() in [ ], then x", done("r[yes()] = x;").cell(0, 3), 4);
        throwsWord("r[1 / 0] = r[3];", "zero");
        throwsWord("r[r[3]] = 1 / 0;", "index");
        throwsWord("r[2] = 1 / 0;", "zero");
        throwsWord("r[3] = 1 / 0;", "index");
        check.is("nothing is worked out behind", done("r[3] = yes();").cell(0, 0), 3);
    }

    private static void beginAtNought() {
        check.sentence("A LOCAL, and a member without return, begin at, give 0.");
        check.is("a LOCAL in its own let", done("let l = l + 4; return l;").told(1, 5), 4);
        check.is("each time anew", done("let s = 0; while x { let l = l + 4; s = s + l; x = x - 1; } return s;").told(1, 5), 12);
        check.is("in the place of another", done("if 1 { let a = 9; } if 1 { let b = b; return b; }").told(1, 5), 0);
        check.is("an empty member", done("").told(1, 5), 0);
        check.is("one that ends without return", done("if x == 4 { return 5; } x = 9;").told(1, 5), 0);
        check.is("one with return", done("if x == 3 { return 5; } x = 9;").told(1, 5), 5);
        TrialGarden g = check.ran("class a { member f() { } member g() { return 7 + f(); } }", "m0 0.1", 0);
        check.is("in an ex", g.told(1, 5), 7);
        g = check.ran("class a { int x; member f() { x = 5; let l = 6; } member g() { return 7 + f() + f(); } }", "m0 0.1 0.1", 0);
        check.is("whatever was worked out in it", g.told(1, 5), 7);
        check.is("and again", g.told(2, 5), 7);
    }

    private static void dynamicCalls() {
        check.sentence("A call is of the member that the object's class has (OVERRIDDEN dynamically), on the same object");
        String text = "class a { int x; member f() { x = x + 1; return 1; } member go() { f(); return f(); } } class b above a { member f() { x = x + 10; return 2; } } class c above b { } class d above a { member f() { return 4; } }";
        int[] given = {1, 2, 2, 4};
        int[] cell = {2, 20, 20, 0};
        for (int c = 0; c < 4; c++) {
            TrialGarden g = check.ran(text, "m0 m" + c + " 1.1", 0);
            check.is("it gives", g.told(2, 5), given[c]);
            check.is("its object", g.cell(1, 0), cell[c]);
            check.is("not the other", g.cell(0, 0), 0);
        }
    }

    private static void callsAbove() {
        check.sentence("above. of that which the class above (of the one in whose text it stands) has");
        String text = "class a { member f() { return 1; } member g() { return f(); } } class b above a { } class c above b { member f() { return above.f() + 10; } member h() { return above.g(); } } "
            + "class d above c { member f() { return above.f() + 100; } }";
        int[][] due = {{1, 1}, {1, 1}, {11, 11, 11}, {111, 111, 111}};
        for (int c = 0; c < 4; c++) {
            for (int m = 0; m < due[c].length; m++) {
                check.is("member " + m + " of " + c, check.ran(text, "m" + c + " 0." + m, 0).told(1, 5), due[c][m]);
            }
        }
        // by a st too
        text = "class a { int x; member f(p in 0 .. 9) { x = x * 10 + p; } } class b above a { member f(p in 0 .. 9) { above.f(p); above.f(1); } } "
            + "class c above b { member g(p in 0 .. 9) { above.f(p); } member f(p in 0 .. 9) { g(p); above.f(2); } }";
        int[] cells = {3, 31, 3121};
        for (int c = 0; c < 3; c++) {
            check.is("f of " + c, check.ran(text, "m" + c + " 0.0(3)", 0).cell(0, 0), cells[c]);
        }
    }

    private static void returnEnds() {
        check.sentence("return ends a member");
        check.is("nothing behind it", done("return 5; x = 9; return 6;").cell(0, 0), 3);
        check.is("what it gives", done("return 5; x = 9; return 6;").told(1, 5), 5);
        check.is("out of blocks", done("while 1 { if 1 { while 1 { return 5; } } x = 9; } x = 8;").cell(0, 0), 3);
        TrialGarden g = check.ran("class a { int x; member f() { while 1 { return 4; } x = 9; } member g() { f(); x = x + f(); return 7; } }", "m0 0.1", 0);
        check.is("not the one that called it", g.told(1, 5), 7);
        check.is("which goes on", g.cell(0, 0), 4);
    }

    private static void thrownGoesOut() {
        check.sentence("THROWN goes out through all");
        String text = "class a { int x; member f(k in 0 .. 30) throws w; { if k > 0 { while 1 { x = x + 1; f(k - 1); x = 99; } } throw w; } member g() throws w; { x = 1 + f(3); return 5; } }";
        for (int k = 0; k <= 19; k++) {
            TrialGarden g = check.ran(text, "m0 0.0(" + k + ")", 0);
            check.is("through " + k, g.cell(0, 0), k);
            check.same("WORD", Check.thrown(g), "w");
            check.is("THREW", g.told(1, 6), 2);
        }
        TrialGarden g = check.ran(text, "m0 0.1", 0);
        check.is("through an ex", g.cell(0, 0), 3);
        check.is("gave", g.told(1, 5), 0);
        // Nothing of what it went out through is left, however often.
        g = check.garden("class a { member t() throws zero; gives 0; { return 1 + (2 + (3 + (4 + (5 + (6 + (7 + 1 / 0)))))); } member f() gives result == 36; { return 1 + (2 + (3 + (4 + (5 + (6 + (7 + 8)))))); } }");
        for (int i = 0; i < 40; i++) {
            check.is("draw()", g.draw(0, i, 100), 0);
        }
        check.ran(g, "m0 0.0 0.1", 0);
        check.is("it gives", g.told(2, 5), 36);
    }

    /** 283 STEPS, and as many st as are wanted. */
    private static String steps(int more) {
        return "let i = 0; while i < 140 { i = i + 1; } " + Texts.times(more, "i = 0; ");
    }

    private static void stepsOfCall() {
        check.sentence("A STEP is each st begun, each test of a while, each member called by an ex (not by a st that is a call). With the 301st (of a call of a row ..) all ends: SPENT");
        String[] last = {"i = 0;", "r[0] = 1;", "let l = 1;", "return 1;", "throw w;", "if 0 { }", "if 1 { }", "if 1 { i = 0; }", "if 0 { } else { i = 0; }", "while 0 { }", "while i < 1 { i = i + 1; }",
            "e();", "above.e();", "i = e();", "i = above.e();", "return e() + e();", "f(1);", "f(e());", "i = f(1);", "i = f(e());", "s();", "i = s();", "i = 0 && e();", "i = 1 && e();", "if e() { }", "while e() { }", "r[e()] = e();", "let k = k + e();"};
        int[] cost = {1, 1, 1, 1, 1, 1, 1, 2, 2, 2, 4, 1, 1, 2, 2, 3, 1, 2, 2, 3, 2, 3, 1, 2, 2, 3, 3, 2};
        for (int n = 0; n < last.length; n++) {
            for (int all = 299; all <= 301; all++) {
                TrialGarden g = check.garden("class z { member e() { } } class a above z { int x; int r[3]; member f(p in 0 .. 1) { } member s() { x = 1; } "
                    + "member go() throws w; { " + steps(all - 283 - cost[n]) + last[n] + " } }");
                check.ran(g, "m1 0.3", all > 300 ? 8 : 0);
                check.is(all + " STEPS by " + last[n], g.told(1, 6), all > 300 || last[n].startsWith("throw") ? 2 : 1);
                if (all > 300) {
                    check.is("SPENT gives nothing", g.told(1, 5), 0);
                    check.is("nor is anything THROWN", g.thrown(0), -1);
                }
            }
        }
        // Each CALL has its own; the STEPS of members within are its.
        TrialGarden g = check.garden("class a { member go() { " + steps(17) + "} member both() { go(); } member half(n in 0 .. 99) { let i = 0; while i < n { i = i + 1; } } member two(n in 0 .. 99) { half(n); half(n); } }");
        check.ran(g, "m0 0.0 0.0 0.0 m0 1.0", 0);
        check.ran(g, "m0 0.1", 8);
        // two st, and twice 2n + 3
        check.ran(g, "m0 0.3(72)", 0);
        check.ran(g, "m0 0.3(73)", 0);
        check.ran(g, "m0 0.3(74)", 8);
        // The 301st st is begun, none behind it is.
        g = check.ran("class a { member go() { " + steps(17) + "i = 1; i = 2; } }", "m0 0.0", 8);
        check.is("st begun", g.member(0, 0, 3), 3 + 17 + 1);
    }

    private static void stepsOfCondition() {
        check.sentence("With the 301st (.. of a condition) all ends: SPENT");
        String[] conditions = {"kept ask(); member m() { }", "member m() needs ask(); { }", "member m() gives ask(); { }", "member m() throws w when ask(); { throw w; }"};
        int[] kinds = {3, 1, 2, 4};
        for (int n = 0; n < conditions.length; n++) {
            for (int all = 299; all <= 301; all++) {
                // one STEP for ask() itself, one for its return
                String text = "class z { member ask() pure; { " + steps(all - 283 - 2) + "return 1; } } class a above z { " + conditions[n] + " }";
                TrialGarden g = check.garden(text);
                check.ran(g, n == 0 ? "m1" : "m1 0.1", all > 300 ? 7 : 0);
                check.is("condition(3)", g.condition(3), all > 300 ? kinds[n] : -1);
            }
        }
        // Each condition has its own, apart from the CALL's.
        TrialGarden g = check.garden("class z { member ask() pure; { " + steps(15) + "return 1; } } class a above z { kept ask(); kept ask(); member m() needs ask(); needs ask(); gives ask(); gives ask(); throws w when ask(); { " + steps(17) + "} }");
        check.ran(g, "m1 0.1 0.1 m1", 0);
        check.ran("class z { member half(n in 0 .. 99) pure; { let i = 0; while i < n { i = i + 1; } return 1; } } class a above z { kept half(72) && half(72); }", "m1", 0);
        check.ran("class z { member half(n in 0 .. 99) pure; { let i = 0; while i < n { i = i + 1; } return 1; } } class a above z { kept half(73) && half(73); }", "m1", 7);
    }

    private static void stepsBeside() {
        check.sentence("With the 301st (of a call ..): what is beside has its own STEPS");
        for (int all = 299; all <= 301; all++) {
            TrialGarden g = check.garden("class a { member m() { " + steps(17) + "} } class b { member m() { " + steps(all - 283) + "} }");
            g.model(0, 1);
            check.ran(g, "m0 0.0", all > 300 ? 6 : 0);
            check.is("the CALL was done", g.told(1, 6), 1);
        }
    }

    private static void nested() {
        check.sentence("SPENT; so with the 21st member one within the other");
        String text = "class z { member up(k in 0 .. 99) { if k > 1 { up(k - 1); } return 1; } } class a above z { member st(k in 0 .. 99) { if k > 1 { st(k - 1); } } member ex(k in 0 .. 99) { if k > 1 { return ex(k - 1) + 1; } return 1; } "
            + "member up(k in 0 .. 99) { if k > 2 { up(k - 1); return 1; } return above.up(k - 1); } } "
            + "class b above a { member one(k in 0 .. 99) { if k > 1 { st(k - 1); } } member st(k in 0 .. 99) { if k > 1 { one(k - 1); } } member many() { let i = 0; while i < 50 { i = i + ex(1); } return i; } }";
        TrialGarden g = check.garden(text);
        for (int k = 19; k <= 22; k++) {
            int due = k > 20 ? 8 : 0;
            check.ran(g, "m1 0.1(" + k + ")", due);
            check.ran(g, "m1 0.2(" + k + ")", due);
            check.is("it gives", g.told(1, 5), k > 20 ? 0 : k);
            check.ran(g, "m0 0.0(" + k + ")", due);
            check.ran(g, "m1 0.0(" + k + ")", due);
            check.ran(g, "m2 0.3(" + k + ")", due);
        }
        check.ran(g, "m2 0.4", 0);
        check.is("one behind the other is not within", g.told(1, 5), 50);
        // beside: its own
        for (int k = 19; k <= 21; k++) {
            g = check.garden("class a { member m(k in 0 .. 99) { } } class b { member m(k in 0 .. 99) { if k > 1 { m(k - 1); } } }");
            g.model(0, 1);
            check.ran(g, "m0 0.0(" + k + ")", k > 20 ? 6 : 0);
        }
    }

    private static void nestedInCondition() {
        check.sentence("SPENT; so with the 21st member one within the other (of a condition)");
        String deep = "class z { int x; member deep(k in 0 .. 99) pure; { if k > 1 { return deep(k - 1); } return 1; } } class a above z { ";
        String[] conditions = {"kept deep(%d); member m() { } }", "member m() needs deep(%d); { } }", "member m() gives deep(%d); { } }", "member m() throws w when deep(%d); { throw w; } }"};
        for (String condition : conditions) {
            for (int k = 19; k <= 22; k++) {
                check.ran(deep + condition.formatted(k), condition.startsWith("kept") ? "m1" : "m1 0.1", k > 20 ? 7 : 0);
            }
        }
    }

    private static void objects() {
        check.sentence("The OBJECTS of a row, at most 3, are numbered from 0 on");
        TrialGarden g = check.garden("class a { int x; member m(p in 0 .. 9) { x = p; } } class b { int y = 5; }");
        check.is("the first", g.make(0), 0);
        check.is("the second", g.make(1), 1);
        check.is("the third", g.make(0), 2);
        check.is("a fourth", g.make(0), -3);
        g.call(0, 0, 7, 0, 0);
        g.call(2, 0, 8, 0, 0);
        check.is("run", g.run(), 0);
        check.is("three", g.count(3), 3);
        long[] due = {7, 5, 8};
        for (int o = 0; o < 3; o++) {
            check.is("OBJECT " + o, g.cell(o, 0), due[o]);
        }
        check.is("OBJECT 3", g.cell(3, 0), Long.MIN_VALUE);
    }

    private static void firstNumbers() {
        check.sentence("made with the first numbers of their fields (0 without)");
        TrialGarden g = check.garden("class a { int x; int y = 1; int r[2] = -1; int s[2]; member m() { x = 9; r[0] = 9; s[1] = 9; } } class b above a { int z = 999999999; int w = -999999999; int v[1] = 0; }");
        check.ran(g, "m1 0.0 m1 m0", 0);
        long[] fresh = {0, 1, -1, -1, 0, 0, 999999999, -999999999, 0};
        for (int k = 0; k < 9; k++) {
            check.is("CELL " + k, g.cell(1, k), fresh[k]);
            check.is("CELL " + k + " of a", g.cell(2, k), k < 6 ? fresh[k] : Long.MIN_VALUE);
        }
        check.is("x of the first", g.cell(0, 0), 9);
        check.ran(g, "m1", 0);
        check.is("each run anew", g.cell(0, 0), 0);
    }

    private static void conditionsSeeFields() {
        check.sentence("CONDITIONS see fields as they are then");
        String text = "class a { int x = 1; %s member m() %s { x = x + 1; } }";
        check.ran(text.formatted("", "needs x == 1;"), "m0 0.0", 0);
        check.ran(text.formatted("", "needs x == 1;"), "m0 0.0 0.0", -1);
        check.ran(text.formatted("", "gives x == 2;"), "m0 0.0", 0);
        check.ran(text.formatted("", "gives x == 1;"), "m0 0.0", 1);
        check.ran(text.formatted("kept x < 2;", ""), "m0", 0);
        check.ran(text.formatted("kept x < 2;", ""), "m0 0.0", 2);
    }

    private static void conditionsSeeParams() {
        check.sentence("CONDITIONS see .. params as they were told");
        check.ran("class a { member m(p in 0 .. 9) gives p == 3; { p = 4; } }", "m0 0.0(3)", 0);
        check.ran("class a { member m(p in 0 .. 9) gives p == 4; { p = 4; } }", "m0 0.0(3)", 1);
        check.ran("class a { member m(p in 0 .. 9) throws w when p == 3; { p = 4; throw w; } }", "m0 0.0(3)", 0);
        check.ran("class a { member m(p in 0 .. 9) throws w when p == 4; { p = 4; throw w; } }", "m0 0.0(3)", 3);
        // A condition that sets its params in a member it calls changes none of them either.
        check.ran("class a { member f(p in 0 .. 9) pure; { p = p + 1; return p; } member m(p in 0 .. 9) needs f(p) == 4; needs p == 3; gives f(p) == 4; gives p == 3; { } }", "m0 0.1(3) 0.1(3)", 0);
        // Tellings call them by their own NAMES.
        check.ran("class a { member m(p in 0 .. 9, q in 0 .. 9) gives p == 1 && q == 2; { } } class b above a { member m(q in 0 .. 9, p in 0 .. 9) gives q == 1 && p == 2; { } }", "m1 0.0(1,2)", 0);
    }

    private static void oldSees() {
        check.sentence("old: as ahead of the call (what stands in [ ] is worked out as things are)");
        String text = "class a { int x; int r[3] = 5; member m(p in 0 .. 9) gives %s; { x = p; r[1] = 7; } }";
        check.ran(text.formatted("old(x) == 0 && x == p"), "m0 0.0(2)", 0);
        check.ran(text.formatted("old(x) == p"), "m0 0.0(2)", 1);
        check.ran(text.formatted("old(x) == 2 || old(x) == 0"), "m0 0.0(2) 0.0(2)", 0);
        check.ran(text.formatted("old(r[1]) == 5 && r[1] == 7"), "m0 0.0(1)", 0);
        check.ran(text.formatted("old(r[x]) == 5"), "m0 0.0(2)", 0);
        check.ran(text.formatted("old(r[x]) == 5"), "m0 0.0(3)", 7);
        check.ran(text.formatted("old(r[old(x)]) == 5"), "m0 0.0(3)", 0);
        check.ran(text.formatted("old(r[old(x)]) == 5"), "m0 0.0(3) 0.0(3)", 7);
        check.ran("class a { int r[3] = 1; member m() gives old(r[r[0]]) == 1; { r[0] = 2; r[2] = 9; } }", "m0 0.0", 0);
        check.ran("class a { int r[3] = 1; member m() gives r[r[0]] == 9; { r[0] = 2; r[2] = 9; } }", "m0 0.0", 0);
    }

    private static void whenSees() {
        check.sentence("when sees all fields so");
        String text = "class a { int x = 1; int r[2] = 1; member seen() pure; { return x; } member m(p in 0 .. 9) throws w when %s; { x = p; r[1] = p; throw w; } }";
        check.ran(text.formatted("x == 1"), "m0 0.1(2)", 0);
        check.ran(text.formatted("x == 2"), "m0 0.1(2)", 3);
        check.ran(text.formatted("r[1] == 1 && r[x] == 1"), "m0 0.1(2)", 0);
        check.ran(text.formatted("seen() == 1"), "m0 0.1(2)", 0);
        check.ran(text.formatted("seen() == 2"), "m0 0.1(2)", 3);
        check.ran(text.formatted("x == 1 || x == 2"), "m0 0.1(2) 0.1(3)", 0);
    }

    private static void impure() {
        check.sentence("An assignment to a field while one is worked out ends it: IMPURE.");
        String[] blocks = {"x = 5;", "x = x;", "r[0] = 0;", "let l = 1; l = 2;", "p = 5;", "if 0 { x = 5; }", "r[2] = 1;", "x = 1 / 0;", "r[0] = 1 / 0;", "return 1; x = 5;", "deeper(p);", "return deeper(p);"};
        int[] due = {5, 5, 5, 0, 0, 0, 7, 7, 7, 0, 5, 5};
        String[] conditions = {"kept f(1); member m() { }", "member m() needs f(1); { }", "member m() gives f(1); { }", "member m() throws w when f(1); { throw w; }"};
        for (int i = 0; i < blocks.length; i++) {
            for (String condition : conditions) {
                String text = "class z { int x; int r[2]; member deeper(q in 0 .. 9) pure; { x = q; return 1; } member f(p in 0 .. 9) pure; { " + blocks[i] + " return 1; } } class a above z { " + condition + " }";
                boolean kept = condition.startsWith("kept");
                TrialGarden g = check.ran(text, kept ? "m1" : "m1 0.2", due[i]);
                check.is("nothing is set by " + blocks[i], g.cell(0, 0), 0);
                check.is("its place", g.condition(2), due[i] == 0 ? -1 : text.indexOf("f(1)"));
                check.is("nothing is told as changed", g.changed(0), -1);
            }
        }
        // In a CALL the same members may.
        TrialGarden g = check.ran("class z { int x; member f(p in 0 .. 9) { x = p; } }", "m0 0.0(3)", 0);
        check.is("a CALL sets", g.cell(0, 0), 3);
    }

    private static void bad() {
        check.sentence("BAD it is when something is THROWN, or SPENT.");
        String[] ex = {"1 / 0", "1 % 0", "r[2]", "r[-1]", "own()", "loop()", "deep(21)", "1", "0 && 1 / 0", "deep(20)", "r[1] == 0"};
        String[] words = {"zero", "zero", "index", "index", "mine", "", "", "", "", "", ""};
        int[] due = {7, 7, 7, 7, 7, 7, 7, 0, -9, 0, 0};
        String[] conditions = {"kept %s; member m() { }", "member m() needs %s; { }", "member m() gives %s; { }", "member m() throws w when %s; { throw w; }"};
        int[] kinds = {3, 1, 2, 4};
        int[] without = {2, -1, 1, 3};
        for (int i = 0; i < ex.length; i++) {
            for (int k = 0; k < conditions.length; k++) {
                String text = "class z { int r[2]; member own() pure; { throw mine; } member loop() pure; { while 1 { } } member deep(n in 0 .. 99) pure; { if n > 1 { return deep(n - 1); } return 1; } } class a above z { " + conditions[k].formatted(ex[i]) + " }";
                int verdict = due[i] == -9 ? without[k] : due[i];
                TrialGarden g = check.ran(text, k == 0 ? "m1" : "m1 0.3", verdict);
                check.is("condition(3) of " + ex[i], g.condition(3), verdict == 7 || verdict == 1 || verdict == 2 ? kinds[k] : -1);
                check.same("thrown by " + ex[i], Check.thrown(g), words[i].isEmpty() && k == 3 ? "w" : words[i]);
                check.is("changed(0)", g.changed(0), -1);
            }
        }
    }
}
