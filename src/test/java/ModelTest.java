/** Promises 8 and 25, and verdict 6: the MODEL and what is beside. */
public final class ModelTest {
    private static final Check check = new Check();
    private static final String TEXT = "class a { int x = 1; member up(p in 0 .. 9) { x = x + p; return x; } member bang(p in 0 .. 9) throws w; throws v; { if p > 1 { throw w; } x = 2; } "
        + "member extra() { x = 50; } member other(p in 0 .. 9) { return 3; } member loop(p in 0 .. 9) { return 0; } } "
        + "class b { int y = 7; int x = 1; member up(q in 5 .. 6) needs 0; gives 0; pure; { y = y + 1; x = x + q; if x == 9 { return 0; } return x; } "
        + "member bang(p in 0 .. 9) { if p > 5 { throw v; } if p > 3 { throw w; } return 0; } member other() { y = 99; return 4; } member loop(p in 0 .. 9) { while p { } } }";

    public static void main(String[] args) {
        compared();
        exactClass();
        itself();
        spent();
        check.end();
    }

    private static TrialGarden garden() {
        TrialGarden g = check.garden(TEXT);
        g.model(0, 1);
        g.make(0);
        return g;
    }

    private static void compared() {
        TrialGarden g = garden();
        check.is("MAKE", g.run(), 0);
        check.is("beside(0, 0)", g.beside(0, 0), 7);
        check.is("beside(0, 1)", g.beside(0, 1), 1);
        check.is("beside(0, 2)", g.beside(0, 2), Long.MIN_VALUE);
        check.is("beside(1, 0)", g.beside(1, 0), Long.MIN_VALUE);
        check.is("beside(-1, 0)", g.beside(-1, 0), Long.MIN_VALUE);
        check.is("beside(0, -1)", g.beside(0, -1), Long.MIN_VALUE);
        g.call(0, 0, 2, 0, 0);
        check.is("needs, gives, ranges and pure aside", g.run(), 0);
        check.is("it is done beside", g.beside(0, 0), 8);
        check.is("with the same arguments", g.beside(0, 1), 3);
        g.call(0, 2, 0, 0, 0);
        check.is("no such member there", g.run(), 0);
        g.call(0, 3, 1, 0, 0);
        check.is("another number of params", g.run(), 0);
        check.is("not done beside", g.beside(0, 0), 8);
        g.clear();
        g.make(0);
        g.call(0, 0, 8, 0, 0);
        check.is("what they give differs", g.run(), 6);
        check.is("it was done", g.told(1, 6), 1);
        check.is("it gave", g.told(1, 5), 9);
        check.is("no condition", g.condition(0), -1);
        check.is("nothing changed", g.changed(0), -1);
        bang(1, 0, "");
        bang(3, 6, "w");
        bang(5, 0, "w");
        bang(7, 6, "v");
    }

    private static void bang(int p, int verdict, String word) {
        TrialGarden g = garden();
        g.call(0, 1, p, 0, 0);
        check.is("bang " + p, g.run(), verdict);
        check.same("bang " + p, Check.thrown(g), word);
    }

    private static void exactClass() {
        TrialGarden g = check.garden("class a { int x; member m() { return 1; } } class b above a { } class c { int z = 3; member m() { return 2; } }");
        g.model(0, 2);
        g.make(1);
        g.call(0, 0, 0, 0, 0);
        check.is("a class below has no MODEL by that", g.run(), 0);
        check.is("nothing beside", g.beside(0, 0), Long.MIN_VALUE);
        g.make(0);
        g.run();
        check.is("beside the second", g.beside(1, 0), 3);
        check.is("not the first", g.beside(0, 0), Long.MIN_VALUE);
        g.call(1, 0, 0, 0, 0);
        check.is("the second", g.run(), 6);
        g.model(0, -1);
        check.is("of none", g.run(), 0);
        check.is("nothing beside", g.beside(1, 0), Long.MIN_VALUE);
    }

    private static void itself() {
        TrialGarden g = check.garden("class a { int x; member up() { x = x + 1; return x; } }");
        g.model(0, 0);
        g.make(0);
        g.call(0, 0, 0, 0, 0);
        g.call(0, 0, 0, 0, 0);
        check.is("itself", g.run(), 0);
        check.is("cell", g.cell(0, 0), 2);
        check.is("beside", g.beside(0, 0), 2);
    }

    private static void spent() {
        TrialGarden g = garden();
        g.call(0, 4, 0, 0, 0);
        check.is("not SPENT", g.run(), 0);
        g.call(0, 4, 1, 0, 0);
        check.is("SPENT", g.run(), 6);
        check.is("the CALL itself was done", g.told(2, 6), 1);
        // kept comes ahead of the MODEL; what is beside is not called then
        g = check.garden("class a { int x; kept x < 5; member m(p in 0 .. 9) { x = p; return p; } } class b { int x; member m(p in 0 .. 9) { x = p; return 0; } }");
        g.model(0, 1);
        g.make(0);
        g.call(0, 0, 7, 0, 0);
        check.is("kept first", g.run(), 2);
        check.is("not done beside", g.beside(0, 0), 0);
    }
}
