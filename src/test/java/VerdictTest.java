/** Terms III, by promises 12 and 18 to 21: each verdict, their order, and what is told of them. */
public final class VerdictTest {
    private static final Check check = new Check();

    public static void main(String[] args) {
        gives();
        kept();
        thrown();
        changes();
        needs();
        broken();
        impure();
        order();
        oldValues();
        check.end();
    }

    /** Runs MAKE of class c and a CALL of its member m. */
    private static TrialGarden ran(String text, int c, int m, int argument) {
        TrialGarden g = check.garden(text);
        g.make(c);
        g.call(0, m, argument, 0, 0);
        g.run();
        return g;
    }

    private static void verdict(String what, TrialGarden g, int verdict) {
        check.is(what + ": verdict()", g.verdict(), verdict);
    }

    private static void condition(String what, TrialGarden g, int toldBy, int object, int place, int kind) {
        check.is(what + ": condition(0)", g.condition(0), toldBy);
        check.is(what + ": condition(1)", g.condition(1), object);
        check.is(what + ": condition(2)", g.condition(2), place);
        check.is(what + ": condition(3)", g.condition(3), kind);
        check.is(what + ": condition(4)", g.condition(4), -1);
        check.is(what + ": condition(-1)", g.condition(-1), -1);
    }

    private static void noCondition(String what, TrialGarden g) {
        condition(what, g, -1, -1, -1, -1);
    }

    private static void changed(String what, TrialGarden g, int object, int cell) {
        check.is(what + ": changed(0)", g.changed(0), object);
        check.is(what + ": changed(1)", g.changed(1), cell);
        check.is(what + ": changed(2)", g.changed(2), -1);
        check.is(what + ": changed(-1)", g.changed(-1), -1);
    }

    private static void gives() {
        String text = "class a { int x; member m(p in 0 .. 9) gives result == p; gives x == old(x) + p; { x = x + p; return p - p / 5; } } "
            + "class b above a { member m(q in 0 .. 9) gives q < 3; { return above.m(q); } }";
        verdict("it holds", ran(text, 0, 0, 4), 0);
        TrialGarden g = ran(text, 0, 0, 5);
        verdict("it doesn't", g, 1);
        condition("it doesn't", g, 0, 0, text.indexOf("result == p"), 2);
        changed("it doesn't", g, -1, -1);
        check.is("it was done", g.told(1, 6), 1);
        check.is("it gave", g.told(1, 5), 4);
        g = ran(text, 1, 0, 7);
        verdict("the object's class first", g, 1);
        condition("the object's class first", g, 1, 0, text.indexOf("q < 3"), 2);
        verdict("all hold", ran(text, 1, 0, 2), 0);
        text = text.replace("q < 3", "1");
        g = ran(text, 1, 0, 7);
        condition("then those above", g, 0, 0, text.indexOf("result == p"), 2);
        g.clear();
        g.make(0);
        g.run();
        noCondition("not of the next run", g);
        // params as they were told, though the member has set them
        verdict("params as told", ran("class a { member m(p in 0 .. 9) gives p == 3; { p = 9; } }", 0, 0, 3), 0);
        verdict("gives are not asked when something was THROWN", ran("class a { member m(p in 0 .. 9) gives 0; throws w; { throw w; } }", 0, 0, 3), 0);
    }

    private static void kept() {
        String text = "class a { int x = 1; kept x < 5; kept x != 3; member set(p in 0 .. 9) { x = p; } } class b above a { int y; kept x + y != 4; member y(p in 0 .. 9) { y = p; } } class c { int z; kept z; }";
        verdict("kept", ran(text, 0, 0, 4), 0);
        TrialGarden g = ran(text, 0, 0, 3);
        verdict("the second", g, 2);
        condition("the second", g, 0, 0, text.indexOf("x != 3"), 3);
        check.is("it was done", g.told(1, 6), 1);
        g = ran(text, 1, 0, 4);
        condition("its class first", g, 1, 0, text.indexOf("x + y"), 3);
        g = ran(text, 1, 0, 7);
        condition("then those above", g, 0, 0, text.indexOf("x < 5"), 3);
        g = check.garden(text);
        g.make(0);
        g.make(2);
        g.make(0);
        check.is("behind a MAKE", g.run(), 2);
        condition("behind a MAKE", g, 2, 1, text.indexOf("z; }", text.indexOf("kept z")), 3);
        check.is("the MAKE was done", g.told(1, 6), 1);
        check.is("the next was not", g.told(2, 6), 0);
        check.is("two OBJECTS", g.count(3), 2);
        // also when something was THROWN
        g = ran("class a { int x; kept x == 0; member m(p in 0 .. 9) throws w; { x = p; throw w; } }", 0, 0, 1);
        verdict("behind what THREW", g, 2);
        check.is("it THREW", g.told(1, 6), 2);
        check.same("thrown", Check.thrown(g), "w");
    }

    private static void thrown() {
        String text = "class a { int x; member m(p in 0 .. 9) throws low when p < 3 && x == 0; throws high; { x = 1; if p == 9 { throw high; } if p == 8 { throw other; } if p == 7 { return 1 / 0; } throw low; } } "
            + "class b above a { member m(q in 0 .. 9) throws zero when q == 7; { above.m(q); } }";
        verdict("when holds, with old values", ran(text, 0, 0, 2), 0);
        TrialGarden g = ran(text, 0, 0, 3);
        verdict("when doesn't", g, 3);
        noCondition("when doesn't", g);
        check.same("its WORD", Check.thrown(g), "low");
        verdict("without when", ran(text, 0, 0, 9), 0);
        verdict("not told", ran(text, 0, 0, 8), 3);
        verdict("zero is not told", ran(text, 0, 0, 7), 3);
        verdict("zero is told below", ran(text, 1, 0, 7), 0);
        verdict("told by a telling above", ran(text, 1, 0, 2), 0);
        verdict("told by neither", ran(text, 1, 0, 4), 3);
        verdict("one of two with the WORD", ran("class a { member m(p in 0 .. 9) throws w when p == 1; throws w when p == 2; { throw w; } }", 0, 0, 2), 0);
        verdict("a throws is no must", ran("class a { member m(p in 0 .. 9) throws w when 1; { } }", 0, 0, 2), 0);
        verdict("none at all", ran("class a { member m(p in 0 .. 9) { throw w; } }", 0, 0, 2), 3);
    }

    private static void changes() {
        String text = "class a { int x; int r[3]; int y; member m(p in 0 .. 9) only x, y; { x = 1; y = 1; if p > 1 { r[1] = p; r[2] = p; } } member n(p in 0 .. 9) pure; { if p > 1 { r[0] = 0; r[1] = p; x = p - 2; } } } "
            + "class b above a { int z; member m(p in 0 .. 9) { above.m(p); z = p; } } class c above a { member m(p in 0 .. 9) pure; { r[2] = p; } }";
        verdict("only these", ran(text, 0, 0, 1), 0);
        TrialGarden g = ran(text, 0, 0, 2);
        verdict("another", g, 4);
        changed("the first one", g, 0, 2);
        noCondition("only", g);
        verdict("nothing changed", ran(text, 0, 1, 1), 0);
        g = ran(text, 0, 1, 2);
        verdict("PURE", g, 5);
        changed("the first that changed: x is set to the same", g, 0, 2);
        noCondition("PURE", g);
        g = ran(text, 0, 1, 3);
        changed("the first one", g, 0, 0);
        verdict("a telling above has only, and its fields", ran(text, 1, 0, 0), 0);
        g = ran(text, 1, 0, 1);
        verdict("another field of the class below", g, 4);
        changed("another field of the class below", g, 0, 5);
        g = ran(text, 2, 0, 1);
        verdict("PURE ahead of only", g, 5);
        changed("PURE ahead of only", g, 0, 3);
        verdict("what is as it was is not changed", ran("class a { int x; member m(p in 0 .. 9) pure; { x = p; x = 0; } }", 0, 0, 5), 0);
        verdict("also when it THREW", ran("class a { int x; member m(p in 0 .. 9) pure; throws w; { x = p; throw w; } }", 0, 0, 5), 5);
        verdict("only, also when it THREW", ran("class a { int x; int y; member m(p in 0 .. 9) only x; throws w; { y = p; throw w; } }", 0, 0, 5), 4);
        g = check.garden(text);
        g.make(0);
        g.make(0);
        g.call(1, 1, 5, 0, 0);
        g.run();
        changed("of the second OBJECT", g, 1, 0);
        g.clear();
        changed("the latest run's still", g, 1, 0);
        g.make(0);
        g.run();
        changed("not of the next run", g, -1, -1);
        changesAgainstSeveral();
    }

    /** Several tellings have an only: the first CELL that breaks any of them is told, whichever that is. */
    private static void changesAgainstSeveral() {
        String body = "(p in 0 .. 99) %s { if p %% 2 { x = 1; } if p / 2 %% 2 { r[1] = 1; } if p / 4 %% 2 { r[2] = 1; } if p / 8 %% 2 { y = 1; } if p / 16 %% 2 { z = 1; } } ";
        String text = "class a { int x; int r[3]; int y; int z; member m" + body.formatted("only z, y, r;") + "} "
            + "class b above a { member m" + body.formatted("only z, x, y; needs 1;") + "} "
            + "class c above b { int w; member o() { } } "
            + "class d above c { member m" + body.formatted("") + "} "
            + "class e above d { member m" + body.formatted("gives 0; only x, r, z;") + "}";
        // x is CELL 0, r 1 .. 3, y 4, z 5: of each class the fields that all of its tellings tell.
        String[] free = {"ryz", "yz", "yz", "yz", "z"};
        String[] fields = {"x", "r", "r", "y", "z"};
        int[] cells = {0, 2, 3, 4, 5};
        for (int c = 0; c < free.length; c++) {
            for (int p = 0; p < 32; p++) {
                int first = -1;
                for (int k = fields.length - 1; k >= 0; k--) {
                    first = (p >> k & 1) == 1 && !free[c].contains(fields[k]) ? cells[k] : first;
                }
                TrialGarden g = ran(text, c, 0, p);
                String what = "only of several, class " + c + " with " + p;
                verdict(what, g, first >= 0 ? 4 : c == 4 ? 1 : 0);
                changed(what, g, first >= 0 ? 0 : -1, first);
            }
        }
        TrialGarden g = check.garden(text);
        g.make(1);
        g.make(4);
        g.call(1, 0, 24, 0, 0);
        g.run();
        changed("of the second OBJECT, by a telling above", g, 1, 4);
        verdict("PURE ahead of several", ran("class a { int x; int y; member m(p in 0 .. 9) only y; { x = 1; } } class b above a { member m(p in 0 .. 9) only x; { y = 1; } } "
            + "class c above b { member m(p in 0 .. 9) pure; { y = 1; } }", 2, 0, 1), 5);
    }

    private static void needs() {
        String text = "class a { int x; member m(p in 0 .. 9) needs p > 2; needs p != 5; { x = p; } member f(p in 0 .. 9) { } } "
            + "class b above a { member m(p in 0 .. 9) needs p == 0; { } member f(p in 0 .. 9) needs 0; { } } class c above b { member m(p in 0 .. 9) needs p == 1; { } }"
            + "class d above a { member m(p in 0 .. 9) { } }";
        int[][] due = {{-1, -1, -1, 0, 0, -1, 0}, {0, -1, -1, 0, 0, -1, 0}, {0, 0, -1, 0, 0, -1, 0}, {0, 0, 0, 0, 0, 0, 0}};
        for (int c = 0; c < due.length; c++) {
            for (int p = 0; p < due[c].length; p++) {
                TrialGarden g = ran(text, c, 0, p);
                verdict("needs of class " + c + " with " + p, g, due[c][p]);
                noCondition("CUT", g);
                check.is("done or not", g.told(1, 6), due[c][p] + 1);
            }
        }
        verdict("a telling above has none", ran(text, 1, 1, 4), 0);
        TrialGarden g = check.garden(text);
        g.make(0);
        g.call(0, 0, 1, 0, 0);
        g.call(0, 0, 4, 0, 0);
        g.make(0);
        check.is("CUT", g.run(), -1);
        check.is("nothing behind", g.cell(0, 0), 0);
        check.is("no second OBJECT", g.count(3), 1);
    }

    private static void broken() {
        String text = "class a { int x; int r[2]; kept r[x] == 0; member m(p in 0 .. 9) needs p / (p - 1) >= 0; { x = p; } member g(p in 0 .. 9) gives 5 / (p - 1) >= 0; { } "
            + "member t(p in 0 .. 9) throws w when 1 / (p - 1); { throw w; } member loop(p in 0 .. 9) pure; { while 1 { } } member n(p in 0 .. 9) gives p < 2 || loop(1); { } "
            + "member w(p in 0 .. 9) pure; { throw own; } member u(p in 0 .. 9) needs p < 2 || w(1); { } }";
        TrialGarden g = ran(text, 0, 0, 1);
        verdict("needs", g, 7);
        condition("needs", g, 0, 0, text.indexOf("p / (p"), 1);
        check.same("needs", Check.thrown(g), "zero");
        check.is("not done", g.told(1, 6), 0);
        g = ran(text, 0, 0, 2);
        verdict("kept", g, 7);
        condition("kept", g, 0, 0, text.indexOf("r[x]"), 3);
        check.same("kept", Check.thrown(g), "index");
        g = ran(text, 0, 1, 1);
        verdict("gives", g, 7);
        condition("gives", g, 0, 0, text.indexOf("5 / (p"), 2);
        g = ran(text, 0, 2, 1);
        verdict("when", g, 7);
        condition("when", g, 0, 0, text.indexOf("1 / (p"), 4);
        check.same("the last one THROWN", Check.thrown(g), "zero");
        check.is("it THREW", g.told(1, 6), 2);
        g = ran(text, 0, 4, 3);
        verdict("SPENT", g, 7);
        condition("SPENT", g, 0, 0, text.indexOf("p < 2 || loop"), 2);
        check.is("nothing THROWN", g.thrown(0), -1);
        g = ran(text, 0, 6, 3);
        verdict("a member throws", g, 7);
        check.same("a member throws", Check.thrown(g), "own");
        // a when with another WORD is not asked; nor one behind that holds
        verdict("not asked", ran("class a { member m(p in 0 .. 9) throws v when 1 / 0; throws w; throws w when 1 / 0; { throw w; } }", 0, 0, 1), 0);
        verdict("needs behind one that doesn't hold are not asked", ran("class a { member m(p in 0 .. 9) needs 0; needs 1 / 0; { } }", 0, 0, 1), -1);
        verdict("needs above are not asked when those below hold", ran("class a { member m(p in 0 .. 9) needs 1 / 0; { } } class b above a { member m(p in 0 .. 9) needs 1; { } }", 1, 0, 1), 0);
    }

    private static void impure() {
        String text = "class a { int x; int r[2]; member bad(p in 0 .. 9) pure; { x = 1 + p; return 1; } member badr(p in 0 .. 9) pure; { r[p] = 1; return 1; } member loc(p in 0 .. 9) pure; { let y = p; y = y + 1; p = y; return p; } "
            + "member g(p in 0 .. 9) gives p < 3 || bad(p); { } member n(p in 0 .. 9) needs p < 3 || badr(p - 3); { } member fine(p in 0 .. 9) gives loc(p) == p + 1; { } member t(p in 0 .. 9) throws w when bad(p); { throw w; } }";
        TrialGarden g = ran(text, 0, 3, 3);
        verdict("gives", g, 5);
        condition("gives", g, 0, 0, text.indexOf("p < 3 || bad(p)"), 2);
        changed("gives", g, -1, -1);
        check.is("it ended there", g.cell(0, 0), 0);
        verdict("not asked so far", ran(text, 0, 3, 2), 0);
        g = ran(text, 0, 4, 3);
        verdict("needs", g, 5);
        condition("needs", g, 0, 0, text.indexOf("p < 3 || badr"), 1);
        check.is("not done", g.told(1, 6), 0);
        verdict("index is THROWN first", ran(text, 0, 4, 5), 7);
        verdict("LOCALS and params may be set", ran(text, 0, 5, 5), 0);
        g = ran(text, 0, 6, 5);
        verdict("when", g, 5);
        condition("when", g, 0, 0, text.indexOf("bad(p); { throw"), 4);
        g = check.garden("class a { int x; member p() pure; { return 1; } } class b above a { kept p(); } class c above b { member p() pure; { x = 1; return 1; } }");
        g.make(1);
        check.is("the member that is called", g.run(), 0);
        g.clear();
        g.make(2);
        check.is("is the object's", g.run(), 5);
        check.is("told by b", g.condition(0), 1);
    }

    private static void order() {
        // SPENT, THROWN, PURE, only, gives, kept: the first of these is told
        String text = "class a { int x; int y; kept x < 5; member m(p in 0 .. 9) gives 0; only y; { x = 9; if p == 1 { throw w; } while p == 2 { } } member n(p in 0 .. 9) gives 0; { x = 9; } member k(p in 0 .. 9) { x = 9; } member f(p in 0 .. 9) pure; gives 0; { x = 9; } }";
        verdict("THROWN", ran(text, 0, 0, 1), 3);
        verdict("SPENT", ran(text, 0, 0, 2), 8);
        verdict("only", ran(text, 0, 0, 3), 4);
        verdict("gives", ran(text, 0, 1, 3), 1);
        verdict("kept", ran(text, 0, 2, 3), 2);
        verdict("PURE", ran(text, 0, 3, 3), 5);
        check.is("the first OBJECT whose kept breaks", keptOfSecond(), 1);
    }

    private static int keptOfSecond() {
        TrialGarden g = check.garden("class a { int x; kept x < 5; member m(p in 0 .. 9) { x = p; } }");
        g.make(0);
        g.make(0);
        g.make(0);
        g.call(1, 0, 9, 0, 0);
        g.call(0, 0, 9, 0, 0);
        g.run();
        check.is("nothing behind it", g.told(4, 6), 0);
        return g.condition(1);
    }

    private static void oldValues() {
        String text = "class a { int x = 1; int r[3] = 2; member m(p in 0 .. 9) gives old(x) == 1; gives old(r[x]) == 2; gives old(r[1]) + 5 == r[1]; gives old(x) + p == x; { x = x + p; r[x] = 7; } }";
        verdict("old values", ran(text, 0, 0, 0), 0);
        TrialGarden g = ran(text.replace("gives old(r[1]) + 5 == r[1]; ", ""), 0, 0, 1);
        verdict("what stands in [ ] is worked out as things are", g, 0);
        g = ran("class a { int x = 1; int r[3]; member m(p in 0 .. 9) gives old(r[x]) == 0; { x = p; } }", 0, 0, 3);
        verdict("so it may not be there", g, 7);
        check.same("index", Check.thrown(g), "index");
        // a member called by when sees old fields too
        verdict("when", ran("class a { int x = 1; member seen() pure; { return x; } member m(p in 0 .. 9) throws w when seen() == 1 && x == 1; { x = p; throw w; } }", 0, 1, 5), 0);
    }
}
