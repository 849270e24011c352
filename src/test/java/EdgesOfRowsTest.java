/** Terms III: each sentence on ROWS, verdicts and the MODEL that has a boundary. */
public final class EdgesOfRowsTest {
    private static final Check check = new Check();

    public static void main(String[] args) {
        rowOfCalls();
        argumentRanges();
        doneOneByOne();
        keptOfMake();
        needs();
        needsUpwards();
        eightTellings();
        verdictOrder();
        spent();
        thrown();
        thrownOfAnyTelling();
        pure();
        only();
        gives();
        givesOrder();
        kept();
        keptOrder();
        badWhereAsked();
        impureWhereAsked();
        modelOfClass();
        modelHasMember();
        modelThrows();
        modelSpent();
        modelGives();
        modelAside();
        check.end();
    }

    private static void rowOfCalls() {
        check.sentence("A ROW OF CALLS has 1 .. 10");
        TrialGarden g = check.garden("class a { int x; member m() { x = x + 1; } }");
        check.is("none", g.run(), -2);
        for (int n = 1; n <= 10; n++) {
            check.is("CALL " + n, n == 1 ? g.make(0) + 1 : g.call(0, 0, 0, 0, 0), n);
            check.is("run", g.run(), 0);
            check.is("all were done", g.cell(0, 0), n - 1);
        }
        check.is("an 11th", g.call(0, 0, 0, 0, 0), -3);
        check.is("an 11th MAKE", g.make(0), -3);
        check.is("ten", g.row(), 10);
        check.is("run", g.run(), 0);
        check.is("nine were done on it", g.cell(0, 0), 9);
    }

    private static void argumentRanges() {
        check.sentence("CALL a member on an OBJECT with arguments within the params' ranges");
        int[][] ranges = {{0, 0}, {-3, 5}, {7, 7}, {-999999999, 999999999}, {-9, -8}, {0, 1}, {-1, 0}};
        for (int[] range : ranges) {
            String param = " in " + range[0] + " .. " + range[1];
            TrialGarden g = check.garden("class a { member m(p" + param + ", q" + param + ", r" + param + ") { } }");
            g.make(0);
            int low = range[0];
            int high = range[1];
            int n = 1;
            for (int k = 0; k < 3; k++) {
                for (int number : new int[] {low - 1, low, high, high + 1}) {
                    boolean fine = number >= low && number <= high;
                    n += fine ? 1 : 0;
                    check.is(number + " at " + k, g.call(0, 0, k == 0 ? number : low, k == 1 ? number : low, k == 2 ? number : low), fine ? n : -2);
                }
            }
            check.is("the least of all", g.call(0, 0, Integer.MIN_VALUE, low, low), -2);
            check.is("the greatest of all", g.call(0, 0, low, low, Integer.MAX_VALUE), -2);
            check.is("row()", g.row(), 7);
        }
    }

    private static void doneOneByOne() {
        check.sentence("They are done one by one.");
        TrialGarden g = check.garden("class a { int x; kept x < 3; member up() { x = x + 1; return x; } member no() needs 0; { } }");
        check.ran(g, "m0 0.0 0.0", 0);
        check.is("the second", g.told(2, 5), 2);
        check.ran(g, "m0 0.0 0.0 0.0 0.0", 2);
        int[] done = {1, 1, 1, 1, 0};
        int[] gave = {0, 1, 2, 3, 0};
        for (int i = 0; i < 5; i++) {
            check.is("done " + i, g.told(i, 6), done[i]);
            check.is("gave " + i, g.told(i, 5), gave[i]);
        }
        check.ran(g, "m0 0.0 0.1 0.0 m0", -1);
        int[] cut = {1, 1, 0, 0, 0};
        for (int i = 0; i < 5; i++) {
            check.is("done ahead of what is CUT alone " + i, g.told(i, 6), cut[i]);
        }
        check.is("x", g.cell(0, 0), 1);
        check.is("OBJECTS", g.count(3), 1);
    }

    private static void keptOfMake() {
        check.sentence("A MAKE: kept of it are asked.");
        TrialGarden g = check.garden("class a { int x = 1; kept x == 1; } class b above a { int y = 2; kept y == 2; } class c above b { kept x == y; } class d { int x; kept x + 1; }");
        check.ran(g, "m0", 0);
        check.ran(g, "m1 m0 m1", 0);
        check.ran(g, "m3 m0", 0);
        check.ran(g, "m2", 2);
        check.is("which class", g.condition(0), 2);
        check.ran(g, "m0 m2 m1", 2);
        check.is("which OBJECT", g.condition(1), 1);
        check.is("it was made", g.count(3), 2);
        check.is("it is done", g.told(1, 6), 1);
        check.is("the next is not", g.told(2, 6), 0);
    }

    private static void needs() {
        check.sentence("one has none or all its needs hold: else the ROW is CUT");
        check.ran("class a { member m(p in 0 .. 9) { } }", "m0 0.0(0)", 0);
        for (int p = 0; p <= 6; p++) {
            check.ran("class a { member m(p in 0 .. 9) needs p > 2; { } }", "m0 0.0(" + p + ")", p > 2 ? 0 : -1);
            check.ran("class a { member m(p in 0 .. 9) needs p > 2; gives 1; needs p < 5; { } }", "m0 0.0(" + p + ")", p > 2 && p < 5 ? 0 : -1);
            check.ran("class a { member m(p in 0 .. 9) needs p != 1; needs p != 2; needs p != 4; needs p != 6; { } }", "m0 0.0(" + p + ")", p == 0 || p == 3 || p == 5 ? 0 : -1);
        }
        TrialGarden g = check.ran("class a { int x; member m() needs 0; { x = 1; } }", "m0 0.0", -1);
        check.is("it was not called", g.cell(0, 0), 0);
        check.is("no condition broke", g.condition(0), -1);
        check.is("nothing behind is begun", g.member(0, 0, 3), 0);
        // those of another member are not asked
        g = check.garden("class a { member e() needs 0; gives 0; { } member m() pure; { } member n() needs 0; gives 0; throws w when 0; { } member o() { throw w; } member p() throws w; { throw w; } }");
        check.ran(g, "m0 0.1", 0);
        check.ran(g, "m0 0.0", -1);
        check.ran(g, "m0 0.2", -1);
        check.ran(g, "m0 0.3", 3);
        check.ran(g, "m0 0.4", 0);
    }

    private static void needsUpwards() {
        check.sentence("needs: of the member's tellings, from the object's class upwards, one ..");
        String text = "class a { member m(p in 0 .. 9) needs p == 1; { } member f(p in 0 .. 9) { } } class b above a { member m(p in 0 .. 9) needs p == 2; needs p < 9; { } member f(p in 0 .. 9) needs 0; { } } "
            + "class c above b { } class d above c { member m(p in 0 .. 9) needs p == 4; { } } class e above a { member m(p in 0 .. 9) { } }";
        TrialGarden g = check.garden(text);
        int[][] taken = {{1}, {1, 2}, {1, 2}, {1, 2, 4}, {0, 1, 2, 3, 4, 5}};
        for (int c = 0; c < taken.length; c++) {
            for (int p = 0; p <= 5; p++) {
                int due = -1;
                for (int one : taken[c]) {
                    due = one == p ? 0 : due;
                }
                check.ran(g, "m" + c + " 0.0(" + p + ")", due);
            }
        }
        check.ran(g, "m1 0.1(3)", 0);
        // They are asked from the object's class upwards, and no further than one that is met.
        check.ran("class a { member m() needs 1 / 0; { } } class b above a { member m() needs 1; { } }", "m1 0.0", 0);
        check.ran("class a { member m() needs 1 / 0; { } } class b above a { member m() needs 0; { } }", "m1 0.0", 7);
        check.ran("class a { member m() needs 1; { } } class b above a { member m() needs 1 / 0; { } }", "m1 0.0", 7);
        check.ran("class a { member m() { } } class b above a { member m() needs 1 / 0; { } }", "m1 0.0", 7);
    }

    /** Eight classes, each above the next, that all tell m: the one of the uppermost is asked of an OBJECT of the lowest. */
    private static void eightTellings() {
        check.sentence("tellings, from the object's class upwards (of 8 classes)");
        String[] upper = {"needs p == 3;", "needs 1; throws w when p == 3;", "needs 1; only x;", "needs 1; gives p != 3;", "needs 1;"};
        String[] lower = {"needs 0;", "needs 1;", "needs 1;", "needs 1;", "needs 1;"};
        String[] body = {"", "throw w;", "if p == 3 { y = 1; }", "", "if p == 3 { z = 1; }"};
        int[][] due = {{-1, 0}, {3, 0}, {0, 4}, {0, 1}, {0, 2}};
        for (int i = 0; i < upper.length; i++) {
            for (int classes = 7; classes <= 8; classes++) {
                StringBuilder text = new StringBuilder("class c0 { int x; int y; int z; kept z == 0; member m(p in 0 .. 9) " + upper[i] + " { } } ");
                for (int c = 1; c < classes; c++) {
                    text.append("class c").append(c).append(" above c").append(c - 1).append(" { member m(p in 0 .. 9) ").append(lower[i]).append(" { ").append(body[i]).append(" } } ");
                }
                TrialGarden g = check.garden(text.toString());
                for (int p = 2; p <= 4; p++) {
                    check.ran(g, "m" + (classes - 1) + " 0.0(" + p + ")", due[i][p == 3 ? 1 : 0]);
                }
            }
        }
    }

    /** Bits of p: 1 SPENT, 2 THROWN untold, 4 a CELL of y, 8 gives doesn't hold, 16 kept doesn't, 32 the MODEL differs. */
    private static void verdictOrder() {
        check.sentence("Verdicts, in this order: 8 .. 3 .. 5 .. 4 .. 1 .. 2 .. 6");
        String body = "{ if p / 4 % 2 { y = 1; } if p / 16 % 2 { z = 1; } while p % 2 { } if p / 2 % 2 { throw w; } return p / 8 % 2; } ";
        String text = "class a { int x; int y; int z; kept z == 0; member m(p in 0 .. 63) gives result == 0; only x, z; " + body + "member f(p in 0 .. 63) gives result == 0; only z; " + body + "} "
            + "class b above a { kept 1; member f(p in 0 .. 63) pure; " + body.replace("z = 1;", "") + "} "
            + "class c { int x; member m(p in 0 .. 63) { return p / 8 % 2 + p / 32; } member f(p in 0 .. 63) { return p / 8 % 2 + p / 32; } }";
        TrialGarden g = check.garden(text);
        g.model(0, 2);
        g.model(1, 2);
        for (int p = 0; p < 64; p++) {
            int tail = p / 8 % 2 == 1 ? 1 : p / 16 % 2 == 1 ? 2 : p / 32 == 1 ? 6 : 0;
            int due = p % 2 == 1 ? 8 : p / 2 % 2 == 1 ? 3 : p / 4 % 2 == 1 ? 4 : tail;
            check.ran(g, "m0 0.0(" + p + ")", due);
            // PURE below, only above: 5 goes ahead of 4
            int noKept = p / 8 % 2 == 1 ? 1 : p / 32 == 1 ? 6 : 0;
            int pureDue = due == 4 ? 5 : due == 8 || due == 3 ? due : noKept;
            check.ran(g, "m1 0.1(" + p + ")", pureDue);
        }
    }

    private static void spent() {
        check.sentence("8 SPENT.");
        TrialGarden g = check.garden("class a { int x; kept x == 0; member m(n in 0 .. 999) gives 0; throws w; pure; { x = 1; let i = 0; while i < n { i = i + 1; } x = 0; throw w; } }");
        // five st, and two STEPS for each turn, and the last test
        check.ran(g, "m0 0.0(147)", 0);
        check.is("THREW", g.told(1, 6), 2);
        check.ran(g, "m0 0.0(148)", 8);
        check.is("SPENT", g.told(1, 6), 2);
        check.is("nothing THROWN", g.thrown(0), -1);
        check.is("no condition", g.condition(0), -1);
        check.is("nothing told as changed", g.changed(0), -1);
        // x = 0 was the 301st
        check.is("CELLS as they are then", g.cell(0, 0), 1);
    }

    private static void thrown() {
        check.sentence("3 THROWN, and no throws of any telling has the WORD and holds (without when it does; with old values and arguments).");
        String text = "class a { int x = 1; member m(p in 0 .. 9) %s { x = 2; p = p + 1; throw word; } }";
        check.ran(text.formatted(""), "m0 0.0(3)", 3);
        check.ran(text.formatted("throws word;"), "m0 0.0(3)", 0);
        check.ran(text.formatted("throws wor;"), "m0 0.0(3)", 3);
        check.ran(text.formatted("throws words;"), "m0 0.0(3)", 3);
        check.ran(text.formatted("throws word when 0;"), "m0 0.0(3)", 3);
        check.ran(text.formatted("throws word when 1;"), "m0 0.0(3)", 0);
        check.ran(text.formatted("throws word when x == 1;"), "m0 0.0(3)", 0);
        check.ran(text.formatted("throws word when x == 2;"), "m0 0.0(3)", 3);
        check.ran(text.formatted("throws word when p == 3;"), "m0 0.0(3)", 0);
        check.ran(text.formatted("throws word when p == 4;"), "m0 0.0(3)", 3);
        check.ran(text.formatted("throws word when 0; throws word when 1;"), "m0 0.0(3)", 0);
        check.ran(text.formatted("throws word when 0; throws other when 1;"), "m0 0.0(3)", 3);
        check.ran("class a { member m() throws w when 1; { } }", "m0 0.0", 0);
        TrialGarden g = check.ran(text.formatted("throws word when 0;"), "m0 0.0(3)", 3);
        check.is("no condition broke", g.condition(0), -1);
        check.same("the WORD", Check.thrown(g), "word");
        for (String word : new String[] {"zero", "index"}) {
            String ex = word.equals("zero") ? "1 / x" : "r[x]";
            check.ran("class a { int x; int r[1]; member m(p in 0 .. 9) { x = p; return " + ex + "; } }", "m0 0.0(" + (word.equals("zero") ? 0 : 1) + ")", 3);
            check.ran("class a { int x; int r[1]; member m(p in 0 .. 9) { x = p; return " + ex + "; } }", "m0 0.0(" + (word.equals("zero") ? 1 : 0) + ")", 0);
            check.ran("class a { int x; int r[1]; member m(p in 0 .. 9) throws " + word + "; { x = p; return " + ex + "; } }", "m0 0.0(" + (word.equals("zero") ? 0 : 1) + ")", 0);
        }
    }

    private static void thrownOfAnyTelling() {
        check.sentence("no throws of any telling");
        String text = "class a { member m(p in 0 .. 9) throws one when p == 1; { } } class b above a { member m(p in 0 .. 9) throws two; { } } class c above b { } class d above c { member m(p in 0 .. 9) throws one when p == 4; "
            + "{ if p < 3 { throw one; } if p < 5 { throw two; } if p < 6 { throw three; } throw one; } }";
        TrialGarden g = check.garden(text);
        int[] due = {3, 0, 3, 0, 0, 3, 3};
        for (int p = 0; p < due.length; p++) {
            check.ran(g, "m3 0.0(" + p + ")", due[p]);
        }
        // of a class that is not above, or of another member: none
        check.ran("class a { member m() throws w; { } } class b { member m() { throw w; } }", "m1 0.0", 3);
        check.ran("class a { member n() throws w; { } member m() { throw w; } }", "m0 0.1", 3);
        check.ran("class a { member m() { throw w; } } class b above a { member m() throws w; { throw w; } }", "m0 0.0", 3);
    }

    private static void pure() {
        check.sentence("5 a PURE one (as the object's class has it) changed a CELL");
        String text = "class a { int x = 1; int r[2]; member m(p in 0 .. 9) pure; { if p == 0 { x = 1; r[0] = 0; } if p == 1 { x = 2; x = 1; } if p == 2 { x = 2; } if p == 3 { r[1] = 1; } if p == 4 { x = 0; r[0] = 1; r[1] = 1; } } "
            + "member n(p in 0 .. 9) { x = p; } } class b above a { member n(p in 0 .. 9) pure; { x = p; } }";
        int[] due = {0, 0, 5, 5, 5, 0};
        int[] cell = {-1, -1, 0, 2, 0, -1};
        TrialGarden g = check.garden(text);
        for (int p = 0; p < due.length; p++) {
            check.ran(g, "m0 0.0(" + p + ")", due[p]);
            check.is("which CELL", g.changed(1), cell[p]);
            check.is("which OBJECT", g.changed(0), cell[p] < 0 ? -1 : 0);
        }
        for (int p = 0; p < 3; p++) {
            check.ran(g, "m0 0.1(" + p + ")", 0);
            check.ran(g, "m1 0.1(" + p + ")", p == 1 ? 0 : 5);
        }
        check.ran("class a { int x; member m() pure; throws w; { x = 1; throw w; } }", "m0 0.0", 5);
        check.ran("class a { int x; member m() pure; throws w; { x = 1; throw v; } }", "m0 0.0", 3);
    }

    private static void only() {
        check.sentence("4 one with only (each telling that has one) a CELL of another field than told there");
        String body = "(p in 0 .. 31) %s { if p %% 2 { x = 1; } if p / 2 %% 2 { r[0] = 1; } if p / 4 %% 2 { r[1] = 1; } if p / 8 %% 2 { y = 1; } if p / 16 { z = 1; } } ";
        String text = "class a { int x; int r[2]; int y; int z; member m" + body.formatted("only r, z;") + "} class b above a { member m" + body.formatted("") + "} class c above b { member m" + body.formatted("only x, r;") + "}";
        int[] cells = {0, 1, 2, 3, 4};
        int[][] free = {{1, 2, 4}, {1, 2, 4}, {1, 2}};
        TrialGarden g = check.garden(text);
        for (int c = 0; c < 3; c++) {
            for (int p = 0; p < 32; p++) {
                int first = -1;
                for (int cell : cells) {
                    boolean told = false;
                    for (int one : free[c]) {
                        told |= one == cell;
                    }
                    first = first < 0 && (p >> cell & 1) == 1 && !told ? cell : first;
                }
                check.ran(g, "m" + c + " 0.0(" + p + ")", first < 0 ? 0 : 4);
                check.is("the first CELL", g.changed(1), first);
            }
        }
        check.ran("class a { int x; int y; member m() only y; { x = 0; y = 1; } }", "m0 0.0", 0);
        check.ran("class a { int x; int y; member m() only y; { x = 1; x = 0; y = 1; } }", "m0 0.0", 0);
        check.ran("class a { int x; int y; member m() only y; throws w; { x = 1; throw w; } }", "m0 0.0", 4);
        check.ran("class a { int x; int y; member m() only y; { x = 1; } member n() { m(); } }", "m0 0.1", 0);
        check.ran("class a { int x; int y; member m() only y; { x = 1; } } class b { int x; member m() { x = 1; } }", "m1 0.0", 0);
    }

    private static void gives() {
        check.sentence("1 nothing was THROWN, and a gives doesn't hold");
        for (int p = 0; p <= 4; p++) {
            TrialGarden g = check.ran("class a { member m(p in 0 .. 9) gives result < 2; throws w when p == 3; { if p == 3 { throw w; } return p; } }", "m0 0.0(" + p + ")", p < 2 || p == 3 ? 0 : 1);
            check.is("the kind", g.condition(3), p < 2 || p == 3 ? -1 : 2);
            check.is("it gave", g.told(1, 5), p == 3 ? 0 : p);
        }
        check.ran("class a { member m() gives 0; throws w; { throw w; } }", "m0 0.0", 0);
        check.ran("class a { member m() gives 1 / 0; throws w; { throw w; } }", "m0 0.0", 0);
        check.ran("class a { member m() gives 1; gives 1; gives 0; { } }", "m0 0.0", 1);
    }

    private static void givesOrder() {
        check.sentence("a gives doesn't hold: of the tellings from the object's class upwards, in their order");
        String text = "class a { member m(p in 0 .. 99) gives p % 2 == 0; gives p / 2 % 2 == 0; { } } class b above a { } class c above b { member m(q in 0 .. 99) needs 1; gives q / 4 % 2 == 0; throws w; gives q / 8 == 0; { } }";
        int[] places = {text.indexOf("q / 4"), text.indexOf("q / 8"), text.indexOf("p % 2"), text.indexOf("p / 2")};
        int[] bits = {4, 8, 1, 2};
        TrialGarden g = check.garden(text);
        for (int p = 0; p < 16; p++) {
            int place = -1;
            for (int i = 3; i >= 0; i--) {
                place = (p & bits[i]) != 0 ? places[i] : place;
            }
            check.ran(g, "m2 0.0(" + p + ")", place < 0 ? 0 : 1);
            check.is("which, with " + p, g.condition(2), place);
            check.is("told by, with " + p, g.condition(0), place < 0 ? -1 : place > text.indexOf("class c") ? 2 : 0);
        }
    }

    private static void kept() {
        check.sentence("2 a kept doesn't hold");
        TrialGarden g = check.garden("class a { int x; kept x < 3; kept x > -3; member m(p in -9 .. 9) throws w; { x = p; if p % 2 { throw w; } } }");
        for (int p = -4; p <= 4; p++) {
            boolean holds = p < 3 && p > -3;
            check.ran(g, "m0 0.0(" + p + ")", holds ? 0 : 2);
            check.is("the kind", g.condition(3), holds ? -1 : 3);
            check.is("THREW or not", g.told(1, 6), p % 2 == 0 ? 1 : 2);
        }
        check.ran("class a { kept 0; }", "m0", 2);
        check.ran("class a { kept 1; }", "m0", 0);
    }

    private static void keptOrder() {
        check.sentence("OBJECT by OBJECT, of its class, then of those above, in their order");
        String text = "class a { int x; kept x % 2 == 0; kept x / 2 % 2 == 0; } class b above a { kept x / 4 % 2 == 0; member m(p in 0 .. 99) { x = p; } } class c above b { kept x / 8 % 2 == 0; kept x / 16 == 0; }";
        int[] bits = {8, 16, 4, 1, 2};
        int[] toldBy = {2, 2, 1, 0, 0};
        int[] places = {text.indexOf("x / 8"), text.indexOf("x / 16"), text.indexOf("x / 4"), text.indexOf("x % 2"), text.indexOf("x / 2")};
        TrialGarden g = check.garden(text);
        for (int p = 0; p < 32; p++) {
            int which = -1;
            for (int i = 4; i >= 0; i--) {
                which = (p & bits[i]) != 0 ? i : which;
            }
            check.ran(g, "m2 m2 1.0(" + p + ") m2", which < 0 ? 0 : 2);
            check.is("which, with " + p, g.condition(2), which < 0 ? -1 : places[which]);
            check.is("told by, with " + p, g.condition(0), which < 0 ? -1 : toldBy[which]);
            check.is("of which OBJECT, with " + p, g.condition(1), which < 0 ? -1 : 1);
        }
    }

    private static void badWhereAsked() {
        check.sentence("A condition that is BAD: 7 .. where it is asked.");
        check.ran("class a { member m() gives 0; gives 1 / 0; { } }", "m0 0.0", 1);
        check.ran("class a { member m() gives 1 / 0; gives 0; { } }", "m0 0.0", 7);
        check.ran("class a { int x; kept x == 0; kept 1 / (1 - x); member m() { x = 1; } }", "m0 0.0", 2);
        check.ran("class a { int x; kept 1 / (1 - x); kept x == 0; member m() { x = 1; } }", "m0 0.0", 7);
        check.ran("class a { member m() throws w; throws w when 1 / 0; { throw w; } }", "m0 0.0", 0);
        check.ran("class a { member m() throws w when 1 / 0; throws w; { throw w; } }", "m0 0.0", 7);
        check.ran("class a { member m() throws v when 1 / 0; throws w; { throw w; } }", "m0 0.0", 0);
        check.ran("class a { member m() throws v when 1 / 0; { throw w; } }", "m0 0.0", 3);
        check.ran("class a { int x; member m() pure; gives 1 / 0; { x = 1; } }", "m0 0.0", 5);
        check.ran("class a { int x; int y; member m() only y; gives 1 / 0; { x = 1; } }", "m0 0.0", 4);
        check.ran("class a { int x; member m() throws w when 1 / 0; pure; { x = 1; throw w; } }", "m0 0.0", 7);
        check.ran("class a { int x; kept x == 0; member m() gives 1 / 0; { x = 1; } }", "m0 0.0", 7);
        check.ran("class a { int x; kept 1 / (1 - x); member m() gives 0; { x = 1; } }", "m0 0.0", 1);
        check.ran("class a { kept 1 / 0; }", "m0", 7);
        check.ran("class a { member m() needs 1 / 0; { while 1 { } } }", "m0 0.0", 7);
        check.ran("class a { member m() needs 1; gives 1 / 0; { while 1 { } } }", "m0 0.0", 8);
        TrialGarden g = check.ran("class a { member m() { } } class b above a { int x; kept x < 1 || 1 / 0; member m() { x = 1; } }", "m0 m1 1.0", 7);
        check.is("told by", g.condition(0), 1);
        check.is("OBJECT", g.condition(1), 1);
        check.is("kind", g.condition(3), 3);
    }

    private static void impureWhereAsked() {
        check.sentence("IMPURE: 5, where it is asked.");
        String f = "class z { int x; int y; member f() pure; { x = 1; return 1; } } class a above z { ";
        check.ran(f + "member m() gives 0; gives f(); { } }", "m1 0.1", 1);
        check.ran(f + "member m() gives f(); gives 0; { } }", "m1 0.1", 5);
        check.ran(f + "member m() gives 1 / 0 && f(); { } }", "m1 0.1", 7);
        check.ran(f + "member m() gives f() && 1 / 0; { } }", "m1 0.1", 5);
        check.ran(f + "kept y == 0; kept y == 0 || f(); member m() { y = 1; } }", "m1 0.1", 2);
        check.ran(f + "kept y == 0 || f(); kept y == 0; member m() { y = 1; } }", "m1 0.1", 5);
        check.ran(f + "member m() throws w; throws w when f(); { throw w; } }", "m1 0.1", 0);
        check.ran(f + "member m() throws w when f(); throws w; { throw w; } }", "m1 0.1", 5);
        check.ran(f + "member m() needs f(); { } }", "m1 0.1", 5);
        check.ran(f + "member m() needs 0 && f(); { } }", "m1 0.1", -1);
        TrialGarden g = check.ran(f + "kept f(); }", "m1", 5);
        check.is("a condition", g.condition(3), 3);
        check.is("nothing changed", g.changed(1), -1);
        g = check.ran(f + "member m() pure; { y = 1; } }", "m1 0.1", 5);
        check.is("without a condition", g.condition(3), -1);
        check.is("what changed", g.changed(1), 1);
    }

    private static void modelOfClass() {
        check.sentence("A MODEL of a class: another one, or itself. Then beside each OBJECT of that class (just that) one of the MODEL is made");
        String text = "class a { int x = 1; member m() { return 1; } } class b above a { int y = 2; } class c { int z = 3; int w = 4; member m() { return 2; } }";
        for (int model = -1; model <= 2; model++) {
            TrialGarden g = check.garden(text);
            check.is("model", g.model(0, model), 1);
            check.ran(g, "m0 m1 m2", 0);
            long[][] cells = {{Long.MIN_VALUE, Long.MIN_VALUE}, {1, Long.MIN_VALUE}, {1, 2}, {3, 4}};
            for (int k = 0; k < 2; k++) {
                check.is("beside it", g.beside(0, k), cells[model + 1][k]);
                check.is("not beside one below", g.beside(1, k), Long.MIN_VALUE);
                check.is("not beside another", g.beside(2, k), Long.MIN_VALUE);
            }
            check.is("behind the last CELL", g.beside(0, 2), Long.MIN_VALUE);
            check.ran(g, "m1 0.0", 0);
            check.ran(g, "m0 0.0", model == 2 ? 6 : 0);
        }
    }

    private static void modelHasMember() {
        check.sentence("a CALL on it is done on this as well, if the class of the MODEL has a member of that NAME with as many params");
        String[] params = {"", "p in 0 .. 1", "p in 0 .. 1, q in 0 .. 1", "p in 0 .. 1, q in 0 .. 1, r in 0 .. 1"};
        for (int own = 0; own <= 3; own++) {
            for (int other = 0; other <= 3; other++) {
                TrialGarden g = check.garden("class a { member m(" + params[own] + ") { } } class b { int x; member n() { } member m(" + params[other] + ") { x = x + 1; } }");
                g.model(0, 1);
                check.ran(g, "m0 0.0 0.0", 0);
                check.is(own + " and " + other + " params", g.beside(0, 0), own == other ? 2 : 0);
            }
        }
        for (String name : new String[] {"m", "mm", "n"}) {
            TrialGarden g = check.garden("class a { member m() { } } class z { int x; member " + name + "() { x = 1; } } class b above z { }");
            g.model(0, 2);
            check.ran(g, "m0 0.0", 0);
            check.is("a member " + name + " that it has from above", g.beside(0, 0), name.equals("m") ? 1 : 0);
        }
        TrialGarden g = check.garden("class a { int x; member m(p in 0 .. 9, q in 0 .. 9) { x = p * 10 + q; return x; } } class b { int x; member m(q in 5 .. 6, p in 5 .. 6) { x = q * 10 + p; return x; } }");
        g.model(0, 1);
        check.ran(g, "m0 m0 1.0(1,2)", 0);
        check.is("with the same arguments, though its ranges are others", g.beside(1, 0), 12);
        check.is("on the one beside the OBJECT", g.beside(0, 0), 0);
    }

    /** What THROWS by p % 4 and p / 4: 0 nothing, 1 w, 2 v, 3 w too; the first of the class, the second of its MODEL. */
    private static void modelThrows() {
        check.sentence("6 if one THROWS and the other doesn't, or another WORD");
        TrialGarden g = check.garden("class a { member m(p in 0 .. 15) throws w; throws v; { if p % 4 == 1 { throw w; } if p % 4 == 2 { throw v; } if p % 4 == 3 { throw w; } return 5; } } "
            + "class b { member m(p in 0 .. 15) { if p / 4 == 1 { throw w; } if p / 4 == 2 { throw v; } if p / 4 == 3 { throw w; } return 5; } }");
        g.model(0, 1);
        String[] words = {"", "w", "v", "w"};
        for (int p = 0; p < 16; p++) {
            String own = words[p % 4];
            String other = words[p / 4];
            check.ran(g, "m0 0.0(" + p + ")", own.equals(other) ? 0 : 6);
            check.same("the last that was THROWN, with " + p, Check.thrown(g), other.isEmpty() ? own : other);
            check.is("the CALL itself, with " + p, g.told(1, 6), own.isEmpty() ? 1 : 2);
            check.is("no condition", g.condition(0), -1);
        }
    }

    private static void modelSpent() {
        check.sentence("6 if .. or is SPENT");
        for (int k = 19; k <= 21; k++) {
            TrialGarden g = check.garden("class a { member m(k in 0 .. 99) { return 0; } } class b { member m(k in 0 .. 99) { if k > 1 { m(k - 1); } } }");
            g.model(0, 1);
            check.ran(g, "m0 0.0(" + k + ")", k > 20 ? 6 : 0);
            check.is("the CALL was done", g.told(1, 6), 1);
            check.is("nothing THROWN", g.thrown(0), -1);
        }
        TrialGarden g = check.garden("class a { member m() { while 1 { } } } class b { int x; member m() { x = 1; while 1 { } } }");
        g.model(0, 1);
        check.ran(g, "m0 0.0", 8);
        check.ran("class a { member m() throws w; { throw w; } }", "m0 0.0", 0);
        g = check.garden("class a { member m() throws w; { throw w; } } class b { member m() { while 1 { } } }");
        g.model(0, 1);
        check.ran(g, "m0 0.0", 6);
    }

    private static void modelGives() {
        check.sentence("6 if .. what they give differs (if nothing was THROWN)");
        TrialGarden g = check.garden("class a { member m(p in -9 .. 9) { return 3; } } class b { member m(p in -9 .. 9) { return p; } }");
        g.model(0, 1);
        for (int p = -9; p <= 9; p++) {
            check.ran(g, "m0 0.0(" + p + ")", p == 3 ? 0 : 6);
            check.is("the CALL gave", g.told(1, 5), 3);
        }
        // Their CELLS may differ.
        g = check.garden("class a { int x; member m() { x = 1; } } class b { int x = 5; member m() { x = 7; } }");
        g.model(0, 1);
        check.ran(g, "m0 0.0", 0);
        check.is("x", g.cell(0, 0), 1);
        check.is("beside", g.beside(0, 0), 7);
        check.ran(g, "m0", 0);
        check.is("beside", g.beside(0, 0), 5);
    }

    private static void modelAside() {
        check.sentence("done on this as well .., needs and all else aside");
        TrialGarden g = check.garden("class a { member m(p in 0 .. 9) { } } class b { int x; kept 0; member m(p in 5 .. 6) needs 0; gives 1 / 0; pure; { x = 1; } } class c { int x; kept 1 / 0; member m(p in 5 .. 6) needs 1 / 0; only x; { x = 1; } }");
        for (int model = 1; model <= 2; model++) {
            g.model(0, model);
            check.ran(g, "m0 0.0(3)", 0);
            check.is("it was done", g.beside(0, 0), 1);
            check.is("nothing THROWN", g.thrown(0), -1);
            // for itself they are asked
            check.ran(g, "m" + model, model == 1 ? 2 : 7);
        }
        // A CALL that is CUT is done on neither.
        g = check.garden("class a { member m(p in 0 .. 9) needs p; { } } class b { int x; member m(p in 0 .. 9) { x = x + 1; } }");
        g.model(0, 1);
        check.ran(g, "m0 0.0(1) 0.0(0)", -1);
        check.is("once", g.beside(0, 0), 1);
    }
}
