/** Promises 9 to 12 and 22 to 24: a row of one's own, its run, and what is told of it. */
public final class RowTest {
    private static final Check check = new Check();
    private static final String TEXT = "class a { int x = 5; int r[2] = -1; member add(p in -3 .. 9, q in 0 .. 0) { x = x + p; r[1] = p; return x * 2; } "
        + "member no() throws bad; { throw bad; } member three(a in 1 .. 2, b in 3 .. 4, c in -6 .. -5) needs a < 2; { return a + b + c; } } "
        + "class b above a { int z = 9; member zed() pure; { return z; } }";

    public static void main(String[] args) {
        limits();
        arguments();
        running();
        told();
        cells();
        check.end();
    }

    private static void limits() {
        TrialGarden g = check.garden(TEXT);
        check.is("make(2)", g.make(2), -2);
        check.is("make(-1)", g.make(-1), -2);
        check.is("make(0)", g.make(0), 0);
        check.is("make(1)", g.make(1), 1);
        check.is("make(0)", g.make(0), 2);
        check.is("a 4th OBJECT", g.make(0), -3);
        check.is("RANGE ahead of FULL", g.make(7), -2);
        for (int i = 4; i <= 10; i++) {
            check.is("call", g.call(1, 3, 0, 0, 0), i);
        }
        check.is("an 11th CALL", g.call(0, 0, 0, 0, 0), -3);
        check.is("RANGE ahead of FULL", g.call(0, 3, 0, 0, 0), -2);
        check.is("row()", g.row(), 10);
        check.is("clear()", g.clear(), 10);
        check.is("clear() again", g.clear(), 0);
        check.is("row()", g.row(), 0);
        check.is("no OBJECT any more", g.call(0, 0, 0, 0, 0), -2);
        check.is("make(0)", g.make(0), 0);
        for (int i = 2; i <= 10; i++) {
            g.call(0, 1, 0, 0, 0);
        }
        check.is("10 CALLS", g.make(0), -3);
    }

    private static void arguments() {
        TrialGarden g = check.garden(TEXT);
        g.make(0);
        check.is("low", g.call(0, 0, -3, 0, 0), 2);
        check.is("high", g.call(0, 0, 9, 0, 0), 3);
        check.is("below low", g.call(0, 0, -4, 0, 0), -2);
        check.is("over high", g.call(0, 0, 10, 0, 0), -2);
        check.is("the second", g.call(0, 0, 0, 1, 0), -2);
        check.is("one that it doesn't have", g.call(0, 0, 0, 0, 1), -2);
        check.is("without params", g.call(0, 1, 0, 0, 0), 4);
        check.is("without params, the first", g.call(0, 1, 1, 0, 0), -2);
        check.is("without params, the second", g.call(0, 1, 0, -1, 0), -2);
        check.is("three", g.call(0, 2, 1, 4, -6), 5);
        check.is("the third out of range", g.call(0, 2, 1, 4, -4), -2);
        check.is("0 out of range", g.call(0, 2, 0, 0, 0), -2);
        check.is("no such OBJECT", g.call(1, 0, 0, 0, 0), -2);
        check.is("OBJECT -1", g.call(-1, 0, 0, 0, 0), -2);
        check.is("no such member", g.call(0, 3, 0, 0, 0), -2);
        check.is("member -1", g.call(0, -1, 0, 0, 0), -2);
        check.is("row()", g.row(), 5);
        // The range is that of the telling that the object's class has.
        g = check.garden("class a { member m(p in 0 .. 1) { } } class b above a { member m(p in 5 .. 6) { } }");
        g.make(0);
        g.make(1);
        check.is("a's range", g.call(0, 0, 5, 0, 0), -2);
        check.is("b's range", g.call(1, 0, 5, 0, 0), 3);
        check.is("not a's", g.call(1, 0, 1, 0, 0), -2);
    }

    private static void running() {
        TrialGarden g = check.garden(TEXT);
        check.is("an empty row", g.run(), -2);
        g.make(0);
        check.is("MAKE alone", g.run(), 0);
        g.call(0, 2, 2, 3, -5);
        check.is("CUT", g.run(), -1);
        check.is("verdict()", g.verdict(), -1);
        check.is("shrink() of one that is CUT", g.shrink(), -2);
        check.is("RANGE leaves all", g.clear(), 2);
        check.is("an empty row again", g.run(), -2);
        check.is("verdict() of the latest run", g.verdict(), -1);
        g.make(0);
        g.call(0, 2, 1, 3, -5);
        check.is("not CUT", g.run(), 0);
        check.is("verdict()", g.verdict(), 0);
    }

    private static void told() {
        TrialGarden g = check.garden(TEXT);
        g.make(1);
        g.call(0, 0, 4, 0, 0);
        g.call(0, 1, 0, 0, 0);
        g.make(0);
        g.call(1, 2, 2, 3, -5);
        g.call(1, 0, 1, 0, 0);
        int[][] ahead = {{0, -1, 1, 0, 0, 0, 0}, {0, 0, 4, 0, 0, 0, 0}, {0, 1, 0, 0, 0, 0, 0}, {1, -1, 0, 0, 0, 0, 0}, {1, 2, 2, 3, -5, 0, 0}, {1, 0, 1, 0, 0, 0, 0}};
        same(g, "ahead of the run", ahead);
        check.is("run()", g.run(), -1);
        int[][] behind = {{0, -1, 1, 0, 0, 0, 1}, {0, 0, 4, 0, 0, 18, 1}, {0, 1, 0, 0, 0, 0, 2}, {1, -1, 0, 0, 0, 0, 1}, {1, 2, 2, 3, -5, 0, 0}, {1, 0, 1, 0, 0, 0, 0}};
        same(g, "behind the run", behind);
        check.is("thrown", g.thrown(0), 'b');
        g.call(0, 0, 0, 0, 0);
        check.is("a CALL that came since", g.told(6, 6), 0);
        check.is("the others stay", g.told(1, 5), 18);
        check.is("told(0, 7)", g.told(0, 7), -1);
        check.is("told(0, -1)", g.told(0, -1), -1);
        check.is("told(7, 0)", g.told(7, 0), -1);
        check.is("told(-1, 0)", g.told(-1, 0), -1);
        g.clear();
        check.is("told of an empty row", g.told(0, 0), -1);
        g.make(0);
        g.call(0, 0, 4, 0, 0);
        check.is("a new CALL in an old one's place: gave", g.told(1, 5), 0);
        check.is("a new CALL in an old one's place: done", g.told(1, 6), 0);
        check.is("a new MAKE in an old one's place", g.told(0, 6), 0);
    }

    private static void same(TrialGarden g, String when, int[][] due) {
        for (int i = 0; i < due.length; i++) {
            for (int what = 0; what < 7; what++) {
                check.is("told(" + i + ", " + what + ") " + when, g.told(i, what), due[i][what]);
            }
        }
    }

    private static void cells() {
        TrialGarden g = check.garden(TEXT);
        g.make(1);
        g.make(0);
        check.is("ahead of the run", g.cell(0, 0), Long.MIN_VALUE);
        check.is("count(3) ahead", g.count(3), 0);
        g.call(0, 0, 4, 0, 0);
        g.run();
        long[] first = {9, -1, 4, 9};
        for (int k = 0; k < 4; k++) {
            check.is("cell(0, " + k + ")", g.cell(0, k), first[k]);
        }
        check.is("cell(0, 4)", g.cell(0, 4), Long.MIN_VALUE);
        check.is("cell(0, -1)", g.cell(0, -1), Long.MIN_VALUE);
        check.is("cell(1, 0)", g.cell(1, 0), 5);
        check.is("cell(1, 2)", g.cell(1, 2), -1);
        check.is("cell(1, 3)", g.cell(1, 3), Long.MIN_VALUE);
        check.is("cell(2, 0)", g.cell(2, 0), Long.MIN_VALUE);
        check.is("cell(-1, 0)", g.cell(-1, 0), Long.MIN_VALUE);
        check.is("count(3)", g.count(3), 2);
        check.is("beside(0, 0) without a MODEL", g.beside(0, 0), Long.MIN_VALUE);
        g.clear();
        check.is("clear() leaves the latest run", g.cell(0, 0), 9);
        check.is("count(3) too", g.count(3), 2);
        g.make(0);
        g.run();
        check.is("behind the next run", g.cell(0, 0), 5);
        check.is("count(3)", g.count(3), 1);
        check.is("no second OBJECT", g.cell(1, 0), Long.MIN_VALUE);
    }
}
