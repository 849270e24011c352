/** Promise 17: shrink(). */
public final class ShrinkTest {
    private static final Check check = new Check();

    public static void main(String[] args) {
        ranges();
        calls();
        arguments();
        objects();
        alike();
        model();
        otherModel();
        noneTaken();
        check.end();
    }

    private static void ranges() {
        TrialGarden g = check.garden("class a { int x; kept x < 5; member m(p in 0 .. 9) { x = p; } }");
        g.make(0);
        check.is("not run", g.shrink(), -2);
        g.run();
        check.is("not bad", g.shrink(), -2);
        g.call(0, 0, 9, 0, 0);
        check.is("CALLS came", g.shrink(), -2);
        g.run();
        g.call(0, 0, 1, 0, 0);
        check.is("a CALL came behind a bad one", g.shrink(), -2);
        g.run();
        check.is("a CALL that is refused", g.call(0, 0, 10, 0, 0), -2);
        check.is("a MAKE that is refused", g.make(3), -2);
        check.is("changes nothing", g.shrink() >= 0 ? 1 : 0, 1);
        check.is("it is told of, and bad", g.shrink(), 0);
        g.clear();
        check.is("CALLS went", g.shrink(), -2);
        g.make(0);
        g.call(0, 0, 9, 0, 0);
        g.run();
        g.make(0);
        check.is("a MAKE came", g.shrink(), -2);
        check.is("verdict() stays", g.verdict(), 2);
    }

    private static void calls() {
        TrialGarden g = check.garden("class a { int x; kept x < 3; member up() { x = x + 1; } member no() { } }");
        g.make(0);
        for (int i = 0; i < 3; i++) {
            g.call(0, 1, 0, 0, 0);
            g.call(0, 0, 0, 0, 0);
        }
        g.call(0, 1, 0, 0, 0);
        g.run();
        check.is("those behind and between go", g.shrink(), 4);
        check.same("the least", Check.row(g), "m0 0.0(0,0,0) 0.0(0,0,0) 0.0(0,0,0)");
        check.is("it is told of", g.cell(0, 0), 3);
        check.is("it is told of", g.told(3, 6), 1);
        check.is("verdict()", g.verdict(), 2);
        check.is("row()", g.row(), 4);
        check.is("no more", g.shrink(), 0);
    }

    private static void arguments() {
        TrialGarden g = check.garden("class a { int x; kept x < 100; member m(p in -50 .. 900, q in 20 .. 90) { x = p; } }");
        g.make(0);
        g.call(0, 0, 900, 77, 0);
        g.run();
        // 900, 450, 225, 112; then q to 20 at once
        check.is("halves, then the first number", g.shrink(), 4);
        check.same("the least", Check.row(g), "m0 0.0(112,20,0)");
        g = check.garden("class a { int x; kept x > -100; member m(p in -900 .. -50) { x = p; } }");
        g.make(0);
        g.call(0, 0, -301, 0, 0);
        g.run();
        // FIRST is the low end, -900
        check.is("to the low end", g.shrink(), 1);
        check.same("the least", Check.row(g), "m0 0.0(-900,0,0)");
        g = check.garden("class a { int x; kept x < 50; member m(p in 10 .. 90) { x = p; } }");
        g.make(0);
        g.call(0, 0, 89, 0, 0);
        g.run();
        // 10 is fine; 10 + 79 / 2 = 49 is fine
        check.is("neither breaks", g.shrink(), 0);
        g = check.garden("class a { int x; kept x > -3; member m(p in -9 .. 9) { x = p; } }");
        g.make(0);
        g.call(0, 0, -7, 0, 0);
        g.run();
        // half of -7 is -3, towards 0; half of that -1
        check.is("towards 0", g.shrink(), 1);
        check.same("the least", Check.row(g), "m0 0.0(-3,0,0)");
        g = check.garden("class a { int x; kept x < -5; member m(p in -9 .. 0, q in -9 .. -1) { x = p - q - 20; } member n(p in 0 .. 9) { x = p; } }");
        g.make(0);
        check.is("kept at once", g.run(), 2);
        g = check.garden("class a { int x; kept x > -9; member m(p in -9 .. 0, q in -9 .. -1, r in 0 .. 9) { x = 0 - 9; } }");
        g.make(0);
        g.call(0, 0, -5, -5, 5);
        g.run();
        check.is("each at once", g.shrink(), 3);
        check.same("0 at an end of the range", Check.row(g), "m0 0.0(0,-9,0)");
        g = check.garden("class a { int x; kept x > -3; member m(p in -999999999 .. 999999999) { x = 0 - p * 2; } }");
        g.make(0);
        g.call(0, 0, 999999999, 0, 0);
        g.run();
        check.is("many halves", g.shrink() > 20 ? 1 : 0, 1);
        check.same("the least", Check.row(g), "m0 0.0(3,0,0)");
    }

    private static void objects() {
        TrialGarden g = check.garden("class a { int x; kept x < 3; member m(p in 0 .. 9) { x = p; } } class b { member n() { } }");
        g.make(1);
        g.call(0, 0, 0, 0, 0);
        g.make(0);
        g.call(0, 0, 0, 0, 0);
        g.make(0);
        g.call(1, 0, 2, 0, 0);
        g.call(2, 0, 8, 0, 0);
        check.is("run", g.run(), 2);
        check.is("the third OBJECT", g.condition(1), 2);
        // without MAKE 0 and its two CALLS; without MAKE 0 (that was 1) and its CALL; 8 becomes 4
        check.is("MAKES go with all on their OBJECTS", g.shrink(), 3);
        check.same("the least", Check.row(g), "m0 0.0(4,0,0)");
        check.is("numbered anew", g.condition(1), 0);
        check.is("one OBJECT", g.count(3), 1);
        // OBJECTS of two classes, whose members have other ranges: the row is told of, and goes on.
        g = check.garden("class a { member m(p in 5 .. 9) { } } class b { int x; kept x < 3; member m(p in 0 .. 90) { x = p; } }");
        g.make(1);
        g.make(0);
        g.call(0, 0, 0, 0, 0);
        g.clear();
        g.make(0);
        g.make(1);
        g.call(1, 0, 80, 0, 0);
        g.run();
        // without the first MAKE; 40, 20, 10, 5
        check.is("shrink", g.shrink(), 5);
        check.same("the least", Check.row(g), "m1 0.0(5,0,0)");
        check.is("a CALL of what is there", g.call(0, 0, 50, 0, 0), 3);
        check.is("no second OBJECT", g.call(1, 0, 50, 0, 0), -2);
        check.is("a MAKE behind it", g.make(0), 1);
        check.is("its range", g.call(1, 0, 50, 0, 0), -2);
        check.is("its range", g.call(1, 0, 9, 0, 0), 5);
        g = check.garden("class a { kept 0; }");
        g.make(0);
        g.run();
        check.is("not an empty one", g.shrink(), 0);
        check.is("row()", g.row(), 1);
    }

    private static void alike() {
        // Without the first CALL the row breaks by another kept: that is not alike.
        TrialGarden g = check.garden("class a { int x; int y; kept x < 5 || y; kept x < 5; member one() { y = 1; } member two() { x = 9; } }");
        g.make(0);
        g.call(0, 0, 0, 0, 0);
        g.call(0, 1, 0, 0, 0);
        check.is("run", g.run(), 2);
        int place = g.condition(2);
        check.is("nothing goes", g.shrink(), 0);
        check.is("the same condition", g.condition(2), place);
        g.clear();
        g.make(0);
        g.call(0, 1, 0, 0, 0);
        g.run();
        check.is("the other condition", g.condition(2) < place ? 1 : 0, 1);
        // Another verdict is not alike either.
        g = check.garden("class a { int x; kept x < 9; member m(p in 0 .. 9) throws w when 0; { if p > 4 { x = p; } if p > 2 { throw w; } } }");
        g.make(0);
        g.call(0, 0, 9, 0, 0);
        check.is("3 ahead of 2", g.run(), 3);
        check.is("9, 4", g.shrink(), 1);
        check.same("the least", Check.row(g), "m0 0.0(4,0,0)");
        check.is("verdict", g.verdict(), 3);
        // Drawn rows, and those of all(), are made less too.
        g = check.garden("class a { int x; kept x <= 12; member m(p in 0 .. 9) { x = x + p; } }");
        check.is("draw", g.draw(0, 3, 100), 2);
        int tried = g.tried();
        check.is("shrink", g.shrink() > 0 ? 1 : 0, 1);
        check.is("tried() stays", g.tried(), tried);
        check.is("two CALLS at least", g.row(), 3);
        check.is("shrink again", g.shrink(), 0);
        check.is("all", g.all(0, 4), 2);
        check.is("it is least already, but for numbers", g.row(), 3);
    }

    private static void model() {
        TrialGarden g = check.garden("class a { int x; member up(p in 0 .. 9) { x = x + p; return x; } member no() { } } class b { int x; member up(p in 0 .. 9) { x = x + p; if x > 4 { return 5; } return x; } }");
        g.model(0, 1);
        g.make(0);
        g.call(0, 1, 0, 0, 0);
        g.call(0, 0, 3, 0, 0);
        g.call(0, 0, 9, 0, 0);
        check.is("run", g.run(), 6);
        check.is("shrink", g.shrink(), 2);
        check.same("the least", Check.row(g), "m0 0.0(9,0,0)");
        check.is("what is beside", g.beside(0, 0), 9);
    }

    private static final String OF_MODELS = "class a { int x = 1; member m(p in 0 .. 9) { x = p; return p; } } "
        + "class b { int x = 2; int y = 3; member m(p in 0 .. 9) { y = 5; return 1; } } "
        + "class c { int z = 4; member m(p in 0 .. 9) { z = 6; throw w; } }";

    private static TrialGarden ofModels(int argument) {
        TrialGarden g = check.garden(OF_MODELS);
        g.model(0, 1);
        g.make(0);
        g.call(0, 0, argument, 0, 0);
        check.is("run", g.run(), 6);
        return g;
    }

    /** What is told behind shrink() is of the ROW run with the MODELS that stand then. */
    private static void otherModel() {
        TrialGarden g = ofModels(0);
        g.model(0, 0);
        check.is("the run ahead is told of", g.verdict(), 6);
        check.is("none breaks alike", g.shrink(), 0);
        check.is("verdict", g.verdict(), 0);
        check.is("beside", g.beside(0, 0), 0);
        check.is("no other CELL", g.beside(0, 1), Long.MIN_VALUE);
        check.is("cell", g.cell(0, 0), 0);
        check.is("the ROW stays", g.row(), 2);
        check.is("it was done", g.told(1, 6), 1);
        check.is("not bad any more", g.shrink(), -2);
        g.model(0, 1);
        check.is("no run since", g.shrink(), -2);
        check.is("run", g.run(), 6);

        g = ofModels(0);
        g.model(0, -1);
        check.is("none breaks alike", g.shrink(), 0);
        check.is("verdict", g.verdict(), 0);
        check.is("nothing beside", g.beside(0, 0), Long.MIN_VALUE);
        check.is("OBJECTS", g.count(3), 1);

        g = ofModels(0);
        check.is("no st of it begun", g.member(2, 0, 3), 0);
        g.model(0, 2);
        check.is("it is least", g.shrink(), 0);
        check.is("verdict", g.verdict(), 6);
        check.is("what is beside", g.beside(0, 0), 6);
        check.same("what it threw", Check.thrown(g), "w");
        check.is("its st were begun", g.member(2, 0, 3), 2);
        check.is("still bad", g.shrink(), 0);

        g = ofModels(9);
        g.model(0, 2);
        check.is("9, 0", g.shrink(), 1);
        check.same("the least", Check.row(g), "m0 0.0(0,0,0)");
        check.is("verdict", g.verdict(), 6);
        check.is("what is beside", g.beside(0, 0), 6);
        check.same("what it threw", Check.thrown(g), "w");
    }

    /** With the same MODELS nothing that is told changes when none is taken. */
    private static void noneTaken() {
        TrialGarden g = check.garden("class a { int x; kept x < 3; member m(p in 0 .. 3) throws w; { x = p; throw w; } }");
        g.make(0);
        g.call(0, 0, 3, 0, 0);
        check.is("run", g.run(), 2);
        check.is("none taken", g.shrink(), 0);
        check.is("verdict", g.verdict(), 2);
        check.is("condition", g.condition(3), 3);
        check.is("its OBJECT", g.condition(1), 0);
        check.is("cell", g.cell(0, 0), 3);
        check.same("thrown", Check.thrown(g), "w");
        check.is("told", g.told(1, 6), 2);
        check.is("tried", g.tried(), 0);
        check.is("changed", g.changed(0), -1);
    }
}
