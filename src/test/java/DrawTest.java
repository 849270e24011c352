/** Promises 13, 15 and 16: draw(), tried(), cut(). The rows are drawn here once more, as the document says. */
public final class DrawTest {
    private static final Check check = new Check();

    public static void main(String[] args) {
        ranges();
        drawnRows();
        untilBad();
        withoutMembers();
        cutRows();
        check.end();
    }

    private static void ranges() {
        TrialGarden g = check.garden("class a { member m() { } }");
        check.is("a row", g.draw(0, 5, 3), 0);
        String row = Check.row(g);
        check.is("no such class", g.draw(1, 5, 3), -2);
        check.is("class -1", g.draw(-1, 5, 3), -2);
        check.is("n 0", g.draw(0, 6, 0), -2);
        check.is("n -1", g.draw(0, 6, -1), -2);
        check.is("n 101", g.draw(0, 6, 101), -2);
        check.is("tried() stays", g.tried(), 3);
        check.same("the row stays", Check.row(g), row);
        check.is("n 100", g.draw(0, 6, 100), 0);
        check.is("tried()", g.tried(), 100);
        check.is("cut()", g.cut(), 0);
    }

    private static String drawn(int c, int seed, int i, int[][] members) {
        return new Drawn().row(c, seed, i, members);
    }

    private static void drawnRows() {
        String text = "class z { } class a { member m() { } member n(p in 2 .. 9, q in -9 .. -2) { } member o(p in -999999999 .. 999999999, q in 5 .. 5, r in -3 .. 3) { } member e(p in -3 .. 0, q in 0 .. 3, r in -1 .. -1) { } }";
        int[][] members = {{}, {2, 9, -9, -2}, {-999999999, 999999999, 5, 5, -3, 3}, {-3, 0, 0, 3, -1, -1}};
        TrialGarden g = check.garden(text);
        int[] seeds = {0, 1, -1, 12345, Integer.MAX_VALUE, Integer.MIN_VALUE, 777777777};
        for (int seed : seeds) {
            for (int n = 1; n <= 30; n++) {
                check.is("draw", g.draw(1, seed, n), 0);
                check.is("tried()", g.tried(), n);
                check.same("the last row of " + n + " by " + seed, Check.row(g), drawn(1, seed, n - 1, members));
                check.is("it was run", g.told(g.row() - 1, 6), 1);
            }
        }
    }

    private static void untilBad() {
        // bad when the arguments of an object come to more than 12
        String text = "class a { int x; kept x <= 12; member m(p in 0 .. 9) { x = x + p; return x; } }";
        TrialGarden g = check.garden(text);
        int found = 0;
        for (int seed = 1; seed <= 20; seed++) {
            int verdict = g.draw(0, seed, 100);
            check.is("verdict()", g.verdict(), verdict);
            check.is("bad", verdict, 2);
            int n = g.tried();
            check.same("the first bad row", Check.row(g), drawn(0, seed, n - 1, new int[][] {{0, 9}}));
            check.is("it is run again with the same verdict", g.run(), 2);
            if (n > 1) {
                found++;
                check.is("none ahead of it", g.draw(0, seed, n - 1), 0);
                check.is("tried()", g.tried(), n - 1);
                check.same("the last one then", Check.row(g), drawn(0, seed, n - 2, new int[][] {{0, 9}}));
            }
        }
        check.is("some were not the first", found > 3 ? 1 : 0, 1);
    }

    private static void withoutMembers() {
        TrialGarden g = check.garden("class a { int x = 4; }");
        for (int seed = 0; seed < 40; seed++) {
            g.draw(0, seed, 1);
            int size = drawn(0, seed, 0, new int[][] {{}}).split(" ").length;
            check.is("MAKES alone", g.row(), Math.min(size, 3));
            check.is("as many OBJECTS", g.count(3), g.row());
            check.is("the last", g.told(g.row() - 1, 1), -1);
        }
    }

    private static void cutRows() {
        String text = "class a { member m(p in 0 .. 1) needs p; { return 7; } }";
        TrialGarden g = check.garden(text);
        for (int seed = 1; seed <= 10; seed++) {
            check.is("none is bad", g.draw(0, seed, 50), 0);
            check.is("tried()", g.tried(), 50);
            int cut = 0;
            for (int i = 0; i < 50; i++) {
                cut += drawn(0, seed, i, new int[][] {{0, 1}}).contains("(0,") ? 1 : 0;
            }
            check.is("cut()", g.cut(), cut);
            String last = drawn(0, seed, 49, new int[][] {{0, 1}});
            check.same("the last row", Check.row(g), last);
            check.is("its verdict", g.verdict(), last.contains("(0,") ? -1 : 0);
            boolean gone = false;
            for (int k = 0; k < g.row(); k++) {
                gone = gone || (g.told(k, 1) == 0 && g.told(k, 2) == 0);
                check.is("done ahead of where it is CUT alone", g.told(k, 6), gone ? 0 : 1);
                check.is("what it gave", g.told(k, 5), gone || g.told(k, 1) < 0 ? 0 : 7);
            }
        }
        Check.tell(g, text);
        check.is("cut() behind a new text", g.cut(), 0);
        check.is("tried() behind a new text", g.tried(), 0);
    }
}
