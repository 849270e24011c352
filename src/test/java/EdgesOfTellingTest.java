/** Promises 18 to 26: each sentence on what is told of the latest run that has a boundary. */
public final class EdgesOfTellingTest {
    private static final Check check = new Check();
    private static final int LEAST = Integer.MIN_VALUE;
    private static final int GREATEST = Integer.MAX_VALUE;
    private static final int[] WHATS = {LEAST, -2, -1, 0, 1, 2, 3, 4, 5, GREATEST};

    public static void main(String[] args) {
        verdict();
        condition();
        conditionElse();
        changed();
        changedElse();
        thrownBytes();
        thrownLast();
        row();
        told();
        toldGave();
        toldDone();
        cell();
        cellLatest();
        beside();
        count();
        countParts();
        countObjects();
        check.end();
    }

    /** A text in which CALL 1.m of "m1 m1 1.m" has verdict m - 1: all of them from -1 to 8, and 9 and 10 for 5 and 7. */
    private static final String EACH = "class z { int x; int y; kept x != 9; member f() pure; { x = 1; return 1; } } class a above z { "
        + "member cut() needs 0; { } member fine() { } member g() gives 0; { } member k() { x = 9; } member t() { throw w; } member o() only x; { y = 1; } member p() pure; { y = 1; } "
        + "member d() { return 1; } member b() gives 1 / 0; { } member s() { while 1 { } } member i() gives f(); { } } class b { member d() { return 2; } }";

    private static TrialGarden each(int m) {
        TrialGarden g = check.garden(EACH);
        g.model(1, 2);
        int[] due = {-1, 0, 1, 2, 3, 4, 5, 6, 7, 8, 5};
        return check.ran(g, "m1 m1 1." + (m + 1), due[m]);
    }

    private static void verdict() {
        check.sentence("18: Its verdict: as run(); 0 ahead of any.");
        TrialGarden g = new TrialGarden();
        check.is("ahead of any", g.verdict(), 0);
        Check.tell(g, EACH);
        check.is("with a text", g.verdict(), 0);
        check.is("run() of none", g.run(), -2);
        check.is("ahead of any", g.verdict(), 0);
        for (int m = 0; m <= 10; m++) {
            TrialGarden one = each(m);
            int due = one.run();
            check.is("as run()", one.verdict(), due);
            check.is("RANGE changes nothing", one.call(9, 0, 0, 0, 0), -2);
            check.is("still", one.verdict(), due);
            one.clear();
            check.is("behind clear()", one.verdict(), due);
            one.make(1);
            check.is("behind make()", one.verdict(), due);
            check.is("run() of MAKE alone", one.run(), 0);
            check.is("of the latest", one.verdict(), 0);
        }
        check.is("draw()", g.draw(1, 1, 100) > 0 ? 1 : 0, 1);
        check.is("of draw()", g.verdict() > 0 ? 1 : 0, 1);
        check.is("all()", g.all(2, 2), 0);
        check.is("of all()", g.verdict(), 0);
    }

    private static void condition() {
        check.sentence("19: Of a condition that broke (verdicts 1, 2, 7, and 5 by IMPURE), what 0: the class that tells it, 1: the OBJECT, 2: the place of its ex's first TOKEN, 3: 1 needs, 2 gives, 3 kept, 4 when.");
        String[] ex = {"-(0)", "(1 / 0)", "1 / 0", "-r[9]", "!f()", "0 == 1"};
        String[] marks = {"member m() needs %s; { }", "member m() needs 1; gives %s; { }", "kept x == 0 || %s; member m() { x = 1; }", "member m() throws v when 0; throws w when %s; { throw w; }"};
        for (int kind = 1; kind <= 4; kind++) {
            for (String one : ex) {
                boolean bad = one.contains("/ 0") || one.contains("r[9]");
                boolean impure = one.contains("f()");
                int[] holdsNot = {-1, 1, 2, 3};
                int verdict = bad ? 7 : impure ? 5 : holdsNot[kind - 1];
                String text = "class y { int x; int r[2]; member f() pure; { x = 2; } } class z above y { " + marks[kind - 1].formatted(one) + " } class a above z { }";
                TrialGarden g = check.ran(text, "m2 m2 m1 1.1", verdict);
                boolean told = verdict == 1 || verdict == 2 || verdict == 7 || verdict == 5;
                int[] due = {1, 1, kind == 3 ? text.indexOf("x == 0 ||") : text.indexOf(one + ";"), kind};
                for (int what : WHATS) {
                    check.is("condition(" + what + ") of " + text, g.condition(what), told && what >= 0 && what < 4 ? due[what] : -1);
                }
            }
        }
    }

    private static void conditionElse() {
        check.sentence("19: NONE else.");
        boolean[] told = {false, false, true, true, false, false, false, false, true, false, true};
        for (int m = 0; m < told.length; m++) {
            TrialGarden g = each(m);
            for (int what : WHATS) {
                boolean number = told[m] && what >= 0 && what < 4;
                check.is("condition(" + what + ") of CALL " + m, g.condition(what) >= 0 ? 1 : 0, number ? 1 : 0);
                check.is("or NONE", g.condition(what) < 0 ? g.condition(what) : -1, -1);
            }
            g.clear();
            check.is("behind clear()", g.condition(3) >= 0 ? 1 : 0, told[m] ? 1 : 0);
            g.make(1);
            g.run();
            check.is("of the next run", g.condition(3), -1);
        }
    }

    private static void changed() {
        check.sentence("20: Of verdicts 4 and 5 (without a condition), what 0: the OBJECT, 1: the CELL that changed, the first one");
        for (String mark : new String[] {"pure;", "only none;"}) {
            String text = "class a { int none; int x; int r[3]; } class b above a { int y; member m(p in 0 .. 31) " + mark
                + " { if p % 2 { x = 1; } if p / 2 % 2 { r[0] = 1; } if p / 4 % 2 { r[2] = 1; } if p / 8 % 2 { y = 1; } if p / 16 { x = 0; y = 0; r[1] = 0; } } }";
            TrialGarden g = check.garden(text);
            int[] cells = {1, 2, 4, 5};
            for (int p = 0; p < 32; p++) {
                int first = -1;
                for (int i = 3; i >= 0; i--) {
                    boolean back = p >= 16 && (i == 0 || i == 3);
                    first = (p >> i & 1) == 1 && !back ? cells[i] : first;
                }
                for (int o = 0; o < 3; o++) {
                    check.ran(g, "m1 m1 m1 " + o + ".0(" + p + ")", first < 0 ? 0 : mark.startsWith("pure") ? 5 : 4);
                    check.is("changed(0)", g.changed(0), first < 0 ? -1 : o);
                    check.is("changed(1)", g.changed(1), first);
                }
            }
        }
    }

    private static void changedElse() {
        check.sentence("20: NONE else.");
        for (int m = 0; m <= 10; m++) {
            TrialGarden g = each(m);
            boolean told = m == 5 || m == 6;
            for (int what : WHATS) {
                check.is("changed(" + what + ") of CALL " + m, g.changed(what), told && (what == 0 || what == 1) ? 1 : -1);
            }
            g.clear();
            check.is("behind clear()", g.changed(1), told ? 1 : -1);
            g.make(1);
            g.run();
            check.is("of the next run", g.changed(1), -1);
        }
    }

    private static void thrownBytes() {
        check.sentence("21: Byte i of the WORD .. ; NONE.");
        for (String word : new String[] {"a", "z", "a0", "a_", "z9_", "az_09", "abcdefghijk", "abcdefghijkl", "z___________", "a00000000000", "zzzzzzzzzzzz", "z99999999999"}) {
            TrialGarden g = check.ran("class a { member m() { throw " + word + "; } }", "m0 0.0", 3);
            for (int i = -2; i <= 14; i++) {
                check.is("thrown(" + i + ") of " + word, g.thrown(i), i >= 0 && i < word.length() ? word.charAt(i) : -1);
            }
            check.is("thrown(least)", g.thrown(LEAST), -1);
            check.is("thrown(greatest)", g.thrown(GREATEST), -1);
        }
        TrialGarden g = check.ran("class a { member m() { } }", "m0 0.0", 0);
        check.is("none", g.thrown(0), -1);
    }

    private static void thrownLast() {
        check.sentence("21: the WORD that was THROWN last in the run (by a CALL, a condition, or what is beside)");
        String text = "class a { int x; int r[2]; kept x < 8 || 1 / 0; member q() pure; { throw mine; } member m(p in 0 .. 9) throws v; throws w; throws u when p != 4 || q(); gives p != 5 || r[x]; needs p != 6 || q(); { x = p; if p == 1 { throw v; } if p == 2 { throw w; } if p == 4 { throw u; } } }";
        TrialGarden g = check.garden(text);
        String[] rows = {"m0", "m0 0.1(0)", "m0 0.1(1)", "m0 0.1(1) 0.1(2)", "m0 0.1(2) 0.1(1) 0.1(0) m0 1.1(0)", "m0 0.1(1) 0.1(4)", "m0 0.1(1) 0.1(5)", "m0 0.1(1) 0.1(6)", "m0 0.1(2) 0.1(8)"};
        int[] verdicts = {0, 0, 0, 0, 0, 7, 7, 7, 7};
        String[] words = {"", "", "v", "w", "v", "mine", "index", "mine", "zero"};
        for (int i = 0; i < rows.length; i++) {
            check.ran(g, rows[i], verdicts[i]);
            check.same(rows[i], Check.thrown(g), words[i]);
            g.clear();
            check.same("behind clear()", Check.thrown(g), words[i]);
        }
        g = check.garden("class a { member m(p in 0 .. 9) throws v; { if p > 1 { throw v; } } } class b { member m(p in 0 .. 9) { if p > 2 { throw w; } if p == 2 { throw v; } if p == 1 { throw u; } } }");
        g.model(0, 1);
        String[] beside = {"", "u", "v", "w"};
        for (int p = 0; p < 4; p++) {
            check.ran(g, "m0 0.0(" + p + ")", p == 1 || p == 3 ? 6 : 0);
            check.same("beside, with " + p, Check.thrown(g), beside[p]);
        }
    }

    private static void row() {
        check.sentence("22: How many CALLS the ROW has.");
        TrialGarden g = check.garden("class a { member m(p in 0 .. 1) { } }");
        check.is("none", g.row(), 0);
        for (int n = 1; n <= 10; n++) {
            Check.put(g, n == 1 || n == 4 || n == 9 ? "m0" : "0.0");
            check.is("row()", g.row(), n);
            check.is("one that is refused", g.call(0, 0, 2, 0, 0), -2);
            check.is("row()", g.row(), n);
        }
        check.is("FULL", g.make(0), -3);
        check.is("row()", g.row(), 10);
        g.run();
        check.is("behind run()", g.row(), 10);
        g.all(0, 3);
        check.is("behind all()", g.row(), 3);
        g.clear();
        check.is("behind clear()", g.row(), 0);
    }

    private static void told() {
        check.sentence("23: Of CALL i of the ROW, what 0: its OBJECT, 1: the member (NONE of MAKE), 2 .. 4: arguments (of MAKE 2: the class) .. NONE when there is none such.");
        TrialGarden g = check.garden("class a { member m(p in -9 .. 9, q in -9 .. 9, r in -9 .. 9) { return p; } member n() { return 8; } } class b above a { }");
        Check.put(g, "m1 0.0(1,-2,3) m0 1.1 0.0(-9,9,0) m1 2.1");
        int[][] due = {{0, -1, 1, 0, 0}, {0, 0, 1, -2, 3}, {1, -1, 0, 0, 0}, {1, 1, 0, 0, 0}, {0, 0, -9, 9, 0}, {2, -1, 1, 0, 0}, {2, 1, 0, 0, 0}};
        int[] gave = {0, 1, 0, 8, -9, 0, 8};
        for (int turn = 0; turn < 2; turn++) {
            for (int i : new int[] {LEAST, -2, -1, 0, 1, 2, 3, 4, 5, 6, 7, 8, 9, 10, GREATEST}) {
                for (int what : new int[] {LEAST, -2, -1, 0, 1, 2, 3, 4, 5, 6, 7, 8, GREATEST}) {
                    boolean there = i >= 0 && i < 7 && what >= 0 && what < 7;
                    int number = !there ? -1 : what < 5 ? due[i][what] : turn == 0 ? 0 : what == 5 ? gave[i] : 1;
                    check.is("told(" + i + ", " + what + ")", g.told(i, what), number);
                }
            }
            check.is("run()", g.run(), 0);
        }
        g.clear();
        check.is("none", g.told(0, 0), -1);
    }

    private static void toldGave() {
        check.sentence("23: 5: what it gave in the latest run (0 if it THREW, wasn't done, is MAKE, or was not run since it came)");
        TrialGarden g = check.garden("class a { int x; kept x < 3; member m(p in 0 .. 9) throws w; needs p != 8; { x = p; if p == 1 { throw w; } return p + 50; } }");
        check.ran(g, "m0 0.0(2) 0.0(1) 0.0(0)", 0);
        int[] due = {0, 52, 0, 50};
        for (int i = 0; i < 4; i++) {
            check.is("gave " + i, g.told(i, 5), due[i]);
        }
        g.call(0, 0, 2, 0, 0);
        check.is("since it came", g.told(4, 5), 0);
        check.is("the one ahead stays", g.told(3, 5), 50);
        check.is("run()", g.run(), 0);
        check.is("run since", g.told(4, 5), 52);
        check.ran(g, "m0 0.0(2) 0.0(8) 0.0(2)", -1);
        int[] cut = {0, 52, 0, 0};
        for (int i = 0; i < 4; i++) {
            check.is("gave, CUT " + i, g.told(i, 5), cut[i]);
        }
        check.ran(g, "m0 0.0(2) 0.0(3) 0.0(2)", 2);
        int[] bad = {0, 52, 53, 0};
        for (int i = 0; i < 4; i++) {
            check.is("gave, bad " + i, g.told(i, 5), bad[i]);
        }
        g.clear();
        Check.put(g, "m0 0.0(2)");
        check.is("another in its place", g.told(1, 5), 0);
        check.is("a MAKE in another's place", g.told(0, 6), 0);
        g = check.ran("class a { member m() { while 1 { } return 9; } }", "m0 0.0", 8);
        check.is("SPENT", g.told(1, 5), 0);
        // the latest run, though the ROW is the same: with another MODEL it breaks earlier
        g = check.garden("class a { member m() { return 7; } } class b { member m() { return 8; } }");
        check.ran(g, "m0 0.0 m1 0.0", 0);
        g.model(0, 1);
        check.is("run()", g.run(), 6);
        int[][] both = {{0, 7, 0, 0}, {1, 1, 0, 0}};
        for (int i = 0; i < 4; i++) {
            check.is("gave " + i, g.told(i, 5), both[0][i]);
            check.is("done " + i, g.told(i, 6), both[1][i]);
        }
        check.is("OBJECTS", g.count(3), 1);
    }

    private static void toldDone() {
        check.sentence("23: 6: 1 if it was done, 2 if it THREW or was SPENT, else 0");
        int[][] due = {{1, 1, 0}, {1, 1, 1}, {1, 1, 1}, {1, 1, 1}, {1, 1, 2}, {1, 1, 1}, {1, 1, 1}, {1, 1, 1}, {1, 1, 1}, {1, 1, 2}, {1, 1, 1}};
        for (int m = 0; m < due.length; m++) {
            TrialGarden g = each(m);
            for (int i = 0; i < 3; i++) {
                check.is("CALL " + i + " with verdict " + g.verdict(), g.told(i, 6), due[m][i]);
            }
            g.call(0, 2, 0, 0, 0);
            check.is("not run since it came", g.told(3, 6), 0);
            g.run();
            check.is("done only if nothing broke ahead", g.told(3, 6), m == 1 ? 1 : 0);
        }
        TrialGarden g = check.ran("class a { member m() needs 1 / 0; { } }", "m0 0.0", 7);
        check.is("BAD needs: not done", g.told(1, 6), 0);
        g = check.ran("class a { kept 0; }", "m0", 2);
        check.is("a MAKE whose kept breaks is done", g.told(0, 6), 1);
    }

    private static void cell() {
        check.sentence("24: CELL k of an OBJECT (fields in order, those above first) behind the latest run; Long.MIN_VALUE when there is none such.");
        TrialGarden g = check.garden("class a { int r[2] = 7; int x = -1; } class b above a { int y = 999999999; int s[8] = -999999999; } class c { } class d { int q[8]; int t[8] = 1; int u[8] = 2; }");
        long[][] due = {{7, 7, -1, 999999999, -999999999, -999999999, -999999999, -999999999, -999999999, -999999999, -999999999, -999999999}, {}, {7, 7, -1}};
        check.ran(g, "m1 m2 m0", 0);
        for (int o : new int[] {LEAST, -2, -1, 0, 1, 2, 3, 4, GREATEST}) {
            for (int k : new int[] {LEAST, -2, -1, 0, 1, 2, 3, 4, 5, 6, 7, 8, 9, 10, 11, 12, 13, 23, 24, 25, GREATEST}) {
                boolean there = o >= 0 && o < 3 && k >= 0 && k < due[o].length;
                check.is("cell(" + o + ", " + k + ")", g.cell(o, k), there ? due[o][k] : Long.MIN_VALUE);
            }
        }
        check.ran(g, "m3", 0);
        check.is("the 24th", g.cell(0, 23), 2);
        check.is("a 25th", g.cell(0, 24), Long.MIN_VALUE);
        g = check.ran("class a { int x; member m() { x = 65536 * 32768; } member n() { x = x - 1; } }", "m0 0.0", 0);
        check.is("the least number is none that is not there", g.cell(0, 0), Integer.MIN_VALUE);
        g.call(0, 1, 0, 0, 0);
        g.run();
        check.is("the greatest", g.cell(0, 0), Integer.MAX_VALUE);
    }

    private static void cellLatest() {
        check.sentence("24: behind the latest run");
        TrialGarden g = check.garden("class a { int x = 1; kept x < 5; member m(p in 0 .. 9) { x = x + p; } }");
        g.make(0);
        check.is("ahead of any", g.cell(0, 0), Long.MIN_VALUE);
        g.run();
        check.is("MAKE", g.cell(0, 0), 1);
        g.call(0, 0, 2, 0, 0);
        g.make(0);
        check.is("not run", g.cell(0, 0), 1);
        check.is("no second", g.cell(1, 0), Long.MIN_VALUE);
        g.run();
        check.is("run", g.cell(0, 0), 3);
        check.is("the second", g.cell(1, 0), 1);
        g.clear();
        check.is("clear() is no run", g.cell(0, 0), 3);
        check.ran(g, "m0 0.0(4) 0.0(1)", 2);
        check.is("where it broke", g.cell(0, 0), 5);
        check.is("shrink()", g.shrink(), 1);
        check.is("of the least", g.cell(0, 0), 5);
        g.all(0, 1);
        check.is("all()", g.cell(0, 0), 1);
    }

    private static void beside() {
        check.sentence("25: Likewise of what is beside it (its MODEL's).");
        TrialGarden g = check.garden("class a { int x = 1; member m(p in 0 .. 9) { x = p; } } class b { int y = 2; int s[3] = 3; member m(p in 0 .. 9) { s[1] = p; } } class c { }");
        g.model(0, 1);
        g.model(1, 2);
        check.is("ahead of any", g.beside(0, 0), Long.MIN_VALUE);
        check.ran(g, "m0 m1 m0 2.0(7)", 0);
        long[][] due = {{2, 3, 3, 3}, {}, {2, 3, 7, 3}};
        for (int o : new int[] {LEAST, -2, -1, 0, 1, 2, 3, 4, GREATEST}) {
            for (int k : new int[] {LEAST, -2, -1, 0, 1, 2, 3, 4, 5, 23, 24, GREATEST}) {
                boolean there = o >= 0 && o < 3 && k >= 0 && k < due[o].length;
                check.is("beside(" + o + ", " + k + ")", g.beside(o, k), there ? due[o][k] : Long.MIN_VALUE);
            }
        }
        g.model(0, -1);
        check.is("a MODEL that goes leaves the latest run", g.beside(2, 2), 7);
        check.is("run()", g.run(), 0);
        check.is("none beside then", g.beside(2, 2), Long.MIN_VALUE);
        g.model(0, 0);
        check.is("a MODEL that comes leaves it too", g.beside(0, 0), Long.MIN_VALUE);
        check.is("run()", g.run(), 0);
        check.is("itself", g.beside(2, 0), 7);
        check.is("no more CELLS", g.beside(2, 1), Long.MIN_VALUE);
    }

    private static void count() {
        check.sentence("26: What 0: classes, 1: bytes of THE TAPE .. NONE for others.");
        TrialGarden g = new TrialGarden();
        for (int n = 0; n <= 8; n++) {
            check.is("classes", n == 0 ? 0 : Check.tell(g, Texts.numbered(n, "class c", " { kept 1; } ")), n);
            check.is("count(0)", g.count(0), n);
            check.is("count(2)", g.count(2), n);
            for (int what : new int[] {LEAST, -2, -1, 4, 5, GREATEST}) {
                check.is("count(" + what + ")", g.count(what), -1);
            }
            check.is("no bytes", g.count(1), 0);
            g.feed(0, 0, 0, 0, 0);
            check.is("twenty", g.count(1), 20);
            g.end(19);
            check.is("nineteen", g.count(1), 19);
            g.end(0);
        }
    }

    private static void countParts() {
        check.sentence("26: 2: PARTS of ex");
        TrialGarden g = new TrialGarden();
        check.is("ahead of any", g.count(2), 0);
        String[] texts = {"class a { }", "class a { kept 1; }", "class a { kept 1 + 1; }", "class a { kept 1; kept 1; member m() needs 1; { return 1; } } class b { kept 1; }", "class a { int x = 5; member m(p in 0 .. 9) { m(p); } }"};
        int[] due = {0, 1, 3, 5, 1};
        for (int i = 0; i < texts.length; i++) {
            check.is("classes()", Check.tell(g, texts[i]) > 0 ? 1 : 0, 1);
            check.is("PARTS of " + texts[i], g.count(2), due[i]);
            check.is("a FAULT", Check.tell(g, "class a { kept 1 + 1 + 1 + 1 + 1 + ; }"), -1);
            check.is("it stays", g.count(2), due[i]);
        }
    }

    private static void countObjects() {
        check.sentence("26: 3: OBJECTS behind the latest run");
        TrialGarden g = check.garden("class a { int x; kept x < 5; member m(p in 0 .. 9) needs p; { x = p; } }");
        check.is("ahead of any", g.count(3), 0);
        for (int n = 1; n <= 3; n++) {
            g.make(0);
            check.is("not run", g.count(3), n - 1);
            g.run();
            check.is("run", g.count(3), n);
        }
        g.clear();
        check.is("behind clear()", g.count(3), 3);
        check.ran(g, "m0 0.0(1) m0 1.0(0) m0", -1);
        check.is("CUT", g.count(3), 2);
        check.ran(g, "m0 0.0(9) m0 m0", 2);
        check.is("bad", g.count(3), 1);
        check.is("shrink()", g.shrink() > 0 ? 1 : 0, 1);
        check.is("of the least", g.count(3), 1);
    }
}
