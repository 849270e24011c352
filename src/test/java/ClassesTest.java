/** Promises 6 to 8: about(), member(), model(). */
public final class ClassesTest {
    private static final Check check = new Check();
    private static final String TEXT = "class a { int x = 1; int r[3]; kept 1; kept x; member m(p in 0 .. 1) { x = 1; if p { x = 2; } else { x = 3; } } member n() pure; { } } "
        + "class b above a { int y; kept y == 0; member k() { while 0 { k(); } } member n() pure; { return 1; } } "
        + "class c above b { member m(q in 2 .. 3) { } } class d { }";

    public static void main(String[] args) {
        about();
        members();
        begun();
        models();
        check.end();
    }

    private static void about() {
        TrialGarden g = check.garden(TEXT);
        int[][] due = {{-1, 2, 4, 2, 2, -1}, {0, 3, 5, 3, 1, -1}, {1, 3, 5, 3, 0, -1}, {-1, 0, 0, 0, 0, -1}};
        for (int c = 0; c < due.length; c++) {
            for (int what = 0; what < 6; what++) {
                check.is("about(" + c + ", " + what + ")", g.about(c, what), due[c][what]);
            }
            check.is("about(" + c + ", 6)", g.about(c, 6), -1);
            check.is("about(" + c + ", -1)", g.about(c, -1), -1);
        }
        check.is("about(4, 1)", g.about(4, 1), -1);
        check.is("about(-1, 1)", g.about(-1, 1), -1);
        check.is("about(maximum, 1)", g.about(Integer.MAX_VALUE, 1), -1);
    }

    private static void members() {
        TrialGarden g = check.garden(TEXT);
        int m = TEXT.indexOf("m(p");
        int n = TEXT.indexOf("n() pure");
        int k = TEXT.indexOf("k() { while");
        int nb = TEXT.lastIndexOf("n() pure");
        int mc = TEXT.indexOf("m(q");
        // the class that tells it, params, st, begun, PURE, place
        int[][][] due = {
            {{0, 1, 4, 0, 0, m}, {0, 0, 0, 0, 1, n}},
            {{0, 1, 4, 0, 0, m}, {1, 0, 1, 0, 1, nb}, {1, 0, 2, 0, 0, k}},
            {{2, 1, 0, 0, 0, mc}, {1, 0, 1, 0, 1, nb}, {1, 0, 2, 0, 0, k}},
            {},
        };
        for (int c = 0; c < due.length; c++) {
            for (int i = 0; i < due[c].length; i++) {
                for (int what = 0; what < 6; what++) {
                    check.is("member(" + c + ", " + i + ", " + what + ")", g.member(c, i, what), due[c][i][what]);
                }
                check.is("member(" + c + ", " + i + ", 6)", g.member(c, i, 6), -1);
                check.is("member(" + c + ", " + i + ", -1)", g.member(c, i, -1), -1);
            }
            check.is("member(" + c + ") behind the last", g.member(c, due[c].length, 0), -1);
            check.is("member(" + c + ", -1, 0)", g.member(c, -1, 0), -1);
        }
        check.is("member(4, 0, 0)", g.member(4, 0, 0), -1);
        check.is("member(-1, 0, 0)", g.member(-1, 0, 0), -1);
    }

    private static void begun() {
        TrialGarden g = check.garden(TEXT);
        g.make(0);
        g.call(0, 0, 0, 0, 0);
        check.is("not ahead of the run", g.member(0, 0, 3), 0);
        g.run();
        check.is("three of four", g.member(0, 0, 3), 3);
        check.is("the same telling, for b", g.member(1, 0, 3), 3);
        check.is("another telling, for c", g.member(2, 0, 3), 0);
        g.clear();
        check.is("they stay begun", g.member(0, 0, 3), 3);
        g.make(0);
        g.call(0, 0, 1, 0, 0);
        g.run();
        check.is("all four", g.member(0, 0, 3), 4);
        g.clear();
        g.make(1);
        g.call(0, 1, 0, 0, 0);
        g.call(0, 2, 0, 0, 0);
        g.run();
        check.is("the telling above is not begun", g.member(0, 1, 3), 0);
        check.is("that below is", g.member(1, 1, 3), 1);
        check.is("a while without a turn", g.member(1, 2, 3), 1);
        check.is("in draw() too", g.draw(3, 1, 1), 0);
        Check.tell(g, TEXT);
        check.is("none since the new text", g.member(0, 0, 3), 0);
        g.all(0, 2);
        check.is("by all()", g.member(0, 0, 3), 4);
        g = check.garden("class a { member f() { return 1; } member g() { let i = 0; while i < 3 { i = i + 1; } return i; } }");
        g.make(0);
        g.call(0, 1, 0, 0, 0);
        g.run();
        check.is("the tests of a while begin no st of another member", g.member(0, 0, 3), 0);
        check.is("its own", g.member(0, 1, 3), 4);
        // Of a condition, and of what is beside
        g = check.garden("class a { member p() pure; { return 1; } member q() gives p(); { } } class b { member q() { return 0; } }");
        g.model(0, 1);
        g.make(0);
        g.call(0, 1, 0, 0, 0);
        g.run();
        check.is("by a condition", g.member(0, 0, 3), 1);
        check.is("beside", g.member(1, 0, 3), 1);
    }

    private static void models() {
        TrialGarden g = check.garden(TEXT);
        check.is("model(0, 1)", g.model(0, 1), 1);
        check.is("about(0, 5)", g.about(0, 5), 1);
        check.is("about(1, 5)", g.about(1, 5), -1);
        check.is("itself", g.model(0, 0), 1);
        check.is("about(0, 5)", g.about(0, 5), 0);
        check.is("model(0, 4)", g.model(0, 4), -2);
        check.is("model(4, 0)", g.model(4, 0), -2);
        check.is("model(-1, 0)", g.model(-1, 0), -2);
        check.is("model(0, -2)", g.model(0, -2), -2);
        check.is("it stays", g.about(0, 5), 0);
        check.is("none", g.model(0, -1), 1);
        check.is("about(0, 5)", g.about(0, 5), -1);
    }
}
