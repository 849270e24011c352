/** Promises 14 to 16: all(), its order, its limit of 600, rows that are CUT. */
public final class AllTest {
    private static final Check check = new Check();

    public static void main(String[] args) {
        ranges();
        order();
        limit();
        cutRows();
        bad();
        check.end();
    }

    private static void ranges() {
        TrialGarden g = check.garden("class a { member m() { } }");
        check.is("size 1", g.all(0, 1), 0);
        check.is("tried()", g.tried(), 1);
        check.same("its row", Check.row(g), "m0");
        check.is("size 0", g.all(0, 0), -2);
        check.is("size 5", g.all(0, 5), -2);
        check.is("size -1", g.all(0, -1), -2);
        check.is("no such class", g.all(1, 1), -2);
        check.is("class -1", g.all(-1, 1), -2);
        check.is("tried() stays", g.tried(), 1);
        check.same("the row stays", Check.row(g), "m0");
        // m0; m0 and a CALL or a MAKE; behind one OBJECT two, behind two OBJECTS three
        check.is("size 2", g.all(0, 2), 0);
        check.is("tried()", g.tried(), 1 + 2);
        check.same("the last", Check.row(g), "m0 m0");
        check.is("size 3", g.all(0, 3), 0);
        check.is("tried()", g.tried(), 3 + 2 + 3);
        check.is("size 4", g.all(0, 4), 0);
        // behind 0.0 0.0: 2, 0.0 m: 3; m 0.0: 3, m 1.0: 3, m m: three CALLS
        check.is("tried()", g.tried(), 8 + 2 + 3 + 3 + 3 + 3);
        check.same("the last", Check.row(g), "m0 m0 m0 2.0(0,0,0)");
        check.is("cut()", g.cut(), 0);
        g = check.garden("class a { }");
        check.is("without members", g.all(0, 4), 0);
        check.is("three rows", g.tried(), 3);
        check.same("the last", Check.row(g), "m0 m0 m0");
    }

    /** The rows in their order, told by making each one in turn the first that is bad. */
    private static void order() {
        String members = "member go(p in -1 .. 2, q in 0 .. 5, r in 7 .. 7) { n = n + 1; } member no(p in -3 .. 0) { } ";
        String[] due = {
            "0.0(-1,0,7)", "0.0(-1,5,7)", "0.0(0,0,7)", "0.0(0,5,7)", "0.0(2,0,7)", "0.0(2,5,7)",
            "0.1(-3,0,0)", "0.1(0,0,0)", "m0",
        };
        TrialGarden g = check.garden("class a { int n; " + members + "}");
        check.is("all(0, 2)", g.all(0, 2), 0);
        check.is("as many", g.tried(), 1 + due.length);
        for (int i = 0; i < due.length - 1; i++) {
            String call = due[i];
            int m = call.charAt(2) - '0';
            String[] a = call.substring(4, call.length() - 1).split(",");
            String bad = m == 0 ? "p == " + a[0] + " && q == " + a[1] : "p == " + a[0];
            g = check.garden("class a { int n; member go(p in -1 .. 2, q in 0 .. 5, r in 7 .. 7) gives !(" + (m == 0 ? bad : "0") + "); { } "
                + "member no(p in -3 .. 0) gives !(" + (m == 1 ? bad : "0") + "); { } }");
            check.is("all(0, 2) with " + call, g.all(0, 2), 1);
            check.is("tried() with " + call, g.tried(), 2 + i);
            check.same("the row", Check.row(g), "m0 " + call);
        }
        // The members, for each the OBJECTS, for each the arguments; then MAKE.
        String[] third = {"0.0(0,0,0)", "0.0(1,0,0)", "1.0(0,0,0)", "1.0(1,0,0)", "0.1(0,0,0)", "1.1(0,0,0)", "m0"};
        g = check.garden("class a { member f(p in 0 .. 1) { } member g() { } }");
        check.is("all(0, 3)", g.all(0, 3), 0);
        check.is("as many", g.tried(), 1 + 4 + 3 * 4 + third.length);
        check.same("the last", Check.row(g), "m0 m0 " + third[6]);
        check.is("shorter rows first", g.all(0, 1), 0);
        check.same("it", Check.row(g), "m0");
        // The second OBJECT's CALL with 1 is found behind the first one's
        g = check.garden("class a { int id; int set; kept id == 0; member f(p in 0 .. 1) { } member g() { set = set + 1; if set == 2 { id = 1; } } }");
        check.is("the same CALL twice", g.all(0, 4), 2);
        check.same("the first row of three", Check.row(g), "m0 0.1(0,0,0) 0.1(0,0,0)");
        check.is("tried()", g.tried(), 1 + 4 + 4 + 4 + 3);
    }

    private static void limit() {
        TrialGarden g = check.garden("class a { member f(p in -1 .. 1, q in -1 .. 1, r in -1 .. 1) { } }");
        check.is("all(0, 4)", g.all(0, 4), 0);
        check.is("600 of them", g.tried(), 600);
        // 1, then 28, then 571 of those of three: 28 behind each of the first 20, and 11 behind the next
        check.same("the last", Check.row(g), "m0 0.0(1,-1,1) 0.0(0,-1,0)");
        check.is("all(0, 2)", g.all(0, 2), 0);
        check.is("29", g.tried(), 29);
    }

    private static void cutRows() {
        // A row that is CUT at its end counts, those that go on from it do not.
        TrialGarden g = check.garden("class a { member f(p in 0 .. 1) needs p; { } }");
        check.is("all(0, 2)", g.all(0, 2), 0);
        check.is("tried()", g.tried(), 1 + 3);
        check.is("cut()", g.cut(), 1);
        check.is("all(0, 3)", g.all(0, 3), 0);
        // behind f(1): f(0), f(1), m; behind m: two OBJECTS, four CALLS, m
        check.is("tried()", g.tried(), 4 + 3 + 5);
        check.is("cut()", g.cut(), 1 + 1 + 2);
        g = check.garden("class a { member f() needs 0; { } member g() needs 0; { } }");
        check.is("all are CUT", g.all(0, 4), 0);
        // m; f, g, m; m f, m f, m g, m g, m m; then six behind m m
        check.is("tried()", g.tried(), 1 + 3 + 5 + 6);
        check.is("cut()", g.cut(), 2 + 4 + 6);
        check.same("the last that was run", Check.row(g), "m0 m0 m0 2.1(0,0,0)");
        check.is("its verdict", g.verdict(), -1);
        check.is("draw() counts anew", g.draw(0, 1, 1), 0);
        check.is("tried()", g.tried(), 1);
        // The last rows are CUT ahead of their end: the row that was run last is told of.
        g = check.garden("class a { int n; member f() needs n == 0; { n = 1; } }");
        check.is("all(0, 3)", g.all(0, 3), 0);
        check.same("the last", Check.row(g), "m0 m0 m0");
    }

    private static void bad() {
        TrialGarden g = check.garden("class a { kept 0; member f() { } }");
        check.is("the first row", g.all(0, 4), 2);
        check.is("tried()", g.tried(), 1);
        check.is("verdict()", g.verdict(), 2);
        check.same("row", Check.row(g), "m0");
        g = check.garden("class a { int x; member up() { x = x + 1; } member at() gives result < 2; { return x; } }");
        check.is("up up at", g.all(0, 4), 1);
        check.same("row", Check.row(g), "m0 0.0(0,0,0) 0.0(0,0,0) 0.1(0,0,0)");
        check.is("told", g.told(3, 5), 2);
        check.is("condition", g.condition(1), 0);
        check.is("all(0, 3) has it not", g.all(0, 3), 0);
        check.is("verdict()", g.verdict(), 0);
    }
}
