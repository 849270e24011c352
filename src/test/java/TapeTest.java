/** Promises 1 to 5 and 26: a new object, the tape, classes(), fault(), count(). */
public final class TapeTest {
    private static final Check check = new Check();

    public static void main(String[] args) {
        newObject();
        tape();
        texts();
        tokens();
        parts();
        oneBehindAnother();
        check.end();
    }

    private static void newObject() {
        TrialGarden g = new TrialGarden();
        check.is("NONE", TrialGarden.NONE, -1);
        check.is("RANGE", TrialGarden.RANGE, -2);
        check.is("FULL", TrialGarden.FULL, -3);
        check.is("count(0)", g.count(0), 0);
        check.is("count(1)", g.count(1), 0);
        check.is("count(2)", g.count(2), 0);
        check.is("count(3)", g.count(3), 0);
        check.is("fault(0)", g.fault(0), 0);
        check.is("fault(1)", g.fault(1), -1);
        check.is("row()", g.row(), 0);
        check.is("clear()", g.clear(), 0);
        check.is("verdict()", g.verdict(), 0);
        check.is("tried()", g.tried(), 0);
        check.is("cut()", g.cut(), 0);
        check.is("run()", g.run(), -2);
        check.is("shrink()", g.shrink(), -2);
        check.is("about(0, 1)", g.about(0, 1), -1);
        check.is("member(0, 0, 0)", g.member(0, 0, 0), -1);
        check.is("model(0, -1)", g.model(0, -1), -2);
        check.is("make(0)", g.make(0), -2);
        check.is("call", g.call(0, 0, 0, 0, 0), -2);
        check.is("draw", g.draw(0, 1, 1), -2);
        check.is("all", g.all(0, 1), -2);
        check.is("condition(2)", g.condition(2), -1);
        check.is("changed(1)", g.changed(1), -1);
        check.is("thrown(0)", g.thrown(0), -1);
        check.is("told(0, 0)", g.told(0, 0), -1);
        check.is("cell(0, 0)", g.cell(0, 0), Long.MIN_VALUE);
        check.is("beside(0, 0)", g.beside(0, 0), Long.MIN_VALUE);
    }

    private static void tape() {
        TrialGarden g = new TrialGarden();
        for (int i = 1; i <= 200; i++) {
            check.is("feed " + i, g.feed(0x20202020, 0x20202020, 0x20202020, 0x20202020, 0x20202020), 20 * i);
        }
        check.is("feed when full", g.feed(1, 2, 3, 4, 5), -3);
        check.is("count(1) when full", g.count(1), 4000);
        check.is("end(4001)", g.end(4001), -1);
        check.is("end(-1)", g.end(-1), -1);
        check.is("end(minimum)", g.end(Integer.MIN_VALUE), -1);
        check.is("end(4000)", g.end(4000), 4000);
        check.is("end(3981)", g.end(3981), 3981);
        check.is("feed over 4000", g.feed(0, 0, 0, 0, 0), -3);
        check.is("end(3980)", g.end(3980), 3980);
        check.is("feed to 4000", g.feed(0x20202020, 0x20202020, 0x20202020, 0x20202020, 0x20202020), 4000);
        check.is("end(5)", g.end(5), 5);
        check.is("end(6) behind end(5)", g.end(6), -1);
        check.is("count(1)", g.count(1), 5);
        check.is("blanks alone", g.classes(), -1);
        check.is("their FAULT", g.fault(0), 1);
        check.is("at the end", g.fault(1), 5);
        check.is("the tape is empty behind a FAULT too", g.count(1), 0);
        check.is("its bytes are gone", g.end(1), -1);
        check.is("feed behind a FAULT", g.feed(0, 0, 0, 0, 0), 20);
        check.is("a bad byte", g.classes(), -1);
        check.is("its place", g.fault(1), 0);
        check.is("an empty tape", g.classes(), -1);
        check.is("its FAULT", g.fault(0), 1);
        check.is("its place", g.fault(1), 0);
        check.is("feed anew", g.feed(0x636c6173, 0x73206120, 0x7b207d20, 0x20202020, 0x20202020), 20);
        check.is("a text behind FAULTS, alone on the tape", g.classes(), 1);
        check.is("the tape behind it", g.count(1), 0);
    }

    private static void texts() {
        TrialGarden g = new TrialGarden();
        check.is("a text", Check.tell(g, "class a { } class b above a { int x; }"), 2);
        check.is("the tape is empty then", g.count(1), 0);
        check.is("no FAULT", g.fault(0), 0);
        check.is("nor a PLACE", g.fault(1), -1);
        check.is("fault(2)", g.fault(2), -1);
        check.is("fault(-1)", g.fault(-1), -1);
        g.make(1);
        g.model(1, 0);
        g.run();
        check.is("a bad text", Check.tell(g, "class a { int x int y; }"), -1);
        check.is("its KIND", g.fault(0), 1);
        check.is("its PLACE", g.fault(1), 16);
        check.is("all stays: classes", g.count(0), 2);
        check.is("all stays: the row", g.row(), 1);
        check.is("all stays: the model", g.about(1, 5), 0);
        check.is("all stays: the run", g.cell(0, 0), 0);
        check.is("all stays but for the tape", g.count(1), 0);
        g.draw(1, 3, 5);
        check.is("a new text", Check.tell(g, "class a { kept 0; }"), 1);
        check.is("all as at first: the row", g.row(), 0);
        check.is("all as at first: the model", g.about(0, 5), -1);
        check.is("all as at first: tried", g.tried(), 0);
        check.is("all as at first: objects", g.count(3), 0);
        check.is("all as at first: fault", g.fault(0), 0);
        check.is("count(0)", g.count(0), 1);
        check.is("count(4)", g.count(4), -1);
        check.is("count(-1)", g.count(-1), -1);
        g.make(0);
        check.is("a row of the new text", g.run(), 2);
        check.is("the same text anew", Check.tell(g, "class a { kept 0; }"), 1);
        check.is("verdict", g.verdict(), 0);
        check.is("condition", g.condition(0), -1);
        check.is("shrink", g.shrink(), -2);
    }

    private static void tokens() {
        TrialGarden g = new TrialGarden();
        check.is("no blanks where none are needed", Check.tell(g, "class a{int x=-5;int r[2];kept x<=0&&r[0]==0||!x;}"), 1);
        check.is("lines", Check.tell(g, "class\na\n{\n}\n"), 1);
        check.is("a tabulator is none", Check.tell(g, "class a\t{ }"), -1);
        check.is("its place", g.fault(1), 7);
        check.is("12 letters", Check.tell(g, "class a23456789_bc { }"), 1);
        check.is("13 letters", Check.tell(g, "class a23456789_bcd { }"), -1);
        check.is("their place", g.fault(1), 6);
        check.is("a number and a word together", Check.tell(g, "class a { int x = 5in; }"), -1);
        check.is("the word's place", g.fault(1), 19);
        check.is("three points", Check.tell(g, "class a { member m(p in 0...1) { } }"), -1);
        check.is("the third", g.fault(1), 27);
        check.is("a capital", Check.tell(g, "Class a { }"), -1);
        check.is("its place", g.fault(1), 0);
        check.is("a byte 0", Check.tell(g, "class a { } \0"), -1);
        check.is("its place", g.fault(1), 12);
        check.is("a byte 233", Check.tell(g, "class \u00e9 { }"), -1);
        check.is("its place", g.fault(1), 6);
        check.is("one & alone", Check.tell(g, "class a { kept 1 & 1; }"), -1);
        check.is("its place", g.fault(1), 17);
    }

    private static void parts() {
        TrialGarden g = new TrialGarden();
        // 1; x; r[x] two; 1 + x three; !x two; size 1
        Check.tell(g, "class a { int x = 7; int r[2]; kept 1; kept x; kept r[x]; kept 1 + x; kept !x; kept size(r); }");
        check.is("parts of kept", g.count(2), 1 + 1 + 2 + 3 + 2 + 1);
        // old(x) two; old(r[0]) three; result one; == twice, &&: three; m() one, above.m() one, +: one
        Check.tell(g, "class b { int x; int r[2]; member m() pure; { } } class a above b { "
            + "member k(p in 1 .. 2) gives old(x) == old(r[0]) && result == m() + above.m(); { x = 1; r[1] = 2; m(); k(5); (x) = 3; } }");
        check.is("a st does not begin with (", g.fault(0), 1);
        Check.tell(g, "class b { int x; int r[2]; member m() pure; { } } class a above b { "
            + "member k(p in 1 .. 2) gives old(x) == old(r[0]) && result == m() + above.m(); { x = 1; r[1] = (2); m(); k(5); } }");
        check.is("parts of gives and st", g.count(2), 2 + 3 + 1 + 3 + 2 + 1 + 1 + 2 + 1);
    }

    /** What a text tells does not depend on the texts ahead of it. */
    private static void oneBehindAnother() {
        String large = "class a { int x; int r[8]; int s[8]; kept 1; kept 2; member m(p in 0 .. 1, q in 0 .. 1) pure; needs 1; { return 1; return 2; } member n() only x; { let y = 1; } } class b above a { kept 1; }";
        String small = "class a { int y = 4; member m() { while 0 { } } } class b { }";
        TrialGarden g = new TrialGarden();
        StringBuilder full = new StringBuilder();
        for (int c = 0; c < 8; c++) {
            full.append("class c").append(c).append(" { int x; int y; ");
            for (int m = 0; m < 12; m++) {
                full.append("member m").append(m).append(m % 2 == 0 ? "() only x; { throw w" : "() { throw w").append(c).append("; } ");
            }
            full.append("} ");
        }
        String only = "class a { int x; int y; member m() throws z; only y; { y = 1; throw z; } member n() only x; { x = 1; } member o() only y; { x = 2; } }";
        for (int i = 0; i < 24; i++) {
            check.is("one with all members", Check.tell(g, full.toString()), 8);
            int place = 0;
            for (int c = 0; c < 8; c++) {
                for (int m = 0; m < 12; m++) {
                    place = full.indexOf("member m", place + 1);
                    check.is("the class that tells it", g.member(c, m, 0), c);
                    check.is("its st", g.member(c, m, 2), 1);
                    check.is("its place", g.member(c, m, 5), place + 7);
                }
                g.clear();
                g.make(c);
                g.call(0, 3, 0, 0, 0);
                check.is("it THROWS", g.run(), 3);
                check.same("its WORD", Check.thrown(g), "w" + c);
                check.is("its st is begun", g.member(c, 3, 3), 1);
                check.is("that of another is not", g.member(c, 4, 3), 0);
            }
            check.is("one with only", Check.tell(g, only), 1);
            g.make(0);
            g.call(0, 0, 0, 0, 0);
            g.call(0, 1, 0, 0, 0);
            check.is("run", g.run(), 0);
            g.call(0, 2, 0, 0, 0);
            check.is("only what this text tells", g.run(), 4);
            check.is("a third one, so that each takes each other's place", Check.tell(g, "class z { }"), 1);
        }
        for (int i = 0; i < 5; i++) {
            check.is("the large one", Check.tell(g, large), 2);
            check.is("its parts", g.count(2), 7);
            check.is("a fault between", Check.tell(g, "class a { int x; kept 1; member m(p in 0 .. 1) pure; { return 1; x = y; } }"), -1);
            check.is("the small one", Check.tell(g, small), 2);
            int[] due = {-1, 1, 1, 1, 0, -1};
            for (int what = 0; what < 6; what++) {
                check.is("about(0, " + what + ")", g.about(0, what), due[what]);
                check.is("about(1, " + what + ")", g.about(1, what), what == 0 || what == 5 ? -1 : 0);
            }
            check.is("params", g.member(0, 0, 1), 0);
            check.is("st", g.member(0, 0, 2), 1);
            check.is("begun", g.member(0, 0, 3), 0);
            check.is("PURE", g.member(0, 0, 4), 0);
            check.is("parts", g.count(2), 1);
            g.make(0);
            g.call(0, 0, 0, 0, 0);
            check.is("run", g.run(), 0);
            check.is("begun", g.member(0, 0, 3), 1);
            check.is("cell", g.cell(0, 0), 4);
        }
    }
}
