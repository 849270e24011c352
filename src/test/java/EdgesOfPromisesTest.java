/** Promises 1 to 12: each sentence on the tape, texts, classes and rows of one's own that has a boundary. */
public final class EdgesOfPromisesTest {
    private static final Check check = new Check();
    private static final int LEAST = Integer.MIN_VALUE;
    private static final int GREATEST = Integer.MAX_VALUE;
    /** Three classes: with all that about() and member() tell apart. */
    private static final String THREE = "class a { int x = 1; int r[3]; kept 1; kept x; member m(p in 0 .. 1) { x = 1; if p { x = 2; } else { x = 3; } } member n() pure; { } } "
        + "class b above a { int y; kept y == 0; member k() { while 0 { k(); } } member n() pure; { return 1; } } class c { }";

    public static void main(String[] args) {
        newObject();
        calls512();
        feedOrder();
        feedFull();
        end();
        classesEmptyTape();
        classesAsAtFirst();
        classesStay();
        fault();
        about();
        aboutOrder();
        member();
        memberBegun();
        model();
        clear();
        makeRange();
        makeFull();
        callRange();
        callArguments();
        callFull();
        run();
        refused();
        check.end();
    }

    private static void newObject() {
        check.sentence("1: No classes, an empty ROW, nothing told.");
        TrialGarden g = new TrialGarden();
        asAtFirst(g);
        check.is("fault(0)", g.fault(0), 0);
        check.is("fault(1)", g.fault(1), -1);
        check.is("count(0)", g.count(0), 0);
        check.is("count(2)", g.count(2), 0);
        check.is("no class", g.about(0, 1), -1);
        check.is("nor a member", g.member(0, 0, 0), -1);
        check.is("nor a MODEL", g.model(0, -1), -2);
        check.is("nor MAKE", g.make(0), -2);
        check.is("nor draw()", g.draw(0, 1, 1), -2);
        check.is("nor all()", g.all(0, 1), -2);
    }

    /** What a new object and one with a new text have alike. */
    private static void asAtFirst(TrialGarden g) {
        check.is("the tape", g.count(1), 0);
        check.is("OBJECTS", g.count(3), 0);
        check.is("row()", g.row(), 0);
        check.is("told(0, 0)", g.told(0, 0), -1);
        check.is("told(0, 6)", g.told(0, 6), -1);
        check.is("run()", g.run(), -2);
        check.is("shrink()", g.shrink(), -2);
        check.is("verdict()", g.verdict(), 0);
        check.is("tried()", g.tried(), 0);
        check.is("cut()", g.cut(), 0);
        for (int what = -1; what <= 4; what++) {
            check.is("condition(" + what + ")", g.condition(what), -1);
            check.is("changed(" + what + ")", g.changed(what), -1);
            check.is("thrown(" + what + ")", g.thrown(what), -1);
            check.is("cell(0, " + what + ")", g.cell(0, what), Long.MIN_VALUE);
            check.is("beside(0, " + what + ")", g.beside(0, what), Long.MIN_VALUE);
        }
        check.is("call()", g.call(0, 0, 0, 0, 0), -2);
        check.is("clear()", g.clear(), 0);
    }

    private static void calls512() {
        check.sentence("An object is used for at most 512 calls after it has been made");
        TrialGarden g = new TrialGarden();
        String text = "class a { int x; kept x < 900; member m(p in -9 .. 9, q in -9 .. 9) { x = x + p; return x; } }";
        Check.onTape(g, text);
        // end(), a feed() for each twenty bytes, end()
        int calls = 2 + (text.length() + 19) / 20;
        check.is("classes()", g.classes(), 1);
        calls++;
        while (calls + 3 <= 512) {
            check.is("draw()", g.draw(0, calls, 100), 0);
            check.is("all()", g.all(0, 4), 0);
            check.is("tried() behind " + calls, g.tried(), 600);
            calls += 3;
        }
        for (; calls < 512; calls++) {
            check.is("call " + calls, g.draw(0, 7, 100), 0);
        }
        check.is("calls", calls, 512);
        // The answer of a 513th is free; it may not throw.
        g.run();
        check.is("a 513th came back", 1, 1);
    }

    private static void feedOrder() {
        check.sentence("2: Twenty bytes come behind THE TAPE, the highest of each int first: how many it has");
        TrialGarden g = new TrialGarden();
        check.is("class a { int x = 12", g.feed(0x636c6173, 0x73206120, 0x7b20696e, 0x74207820, 0x3d203132), 20);
        check.is("345678; }", g.feed(0x33343536, 0x37383b20, 0x7d202020, 0x20202020, 0x20202020), 40);
        check.is("count(1)", g.count(1), 40);
        check.is("classes()", g.classes(), 1);
        g.make(0);
        g.run();
        check.is("in their order", g.cell(0, 0), 12345678);
        check.is("bytes above 127", g.feed(0x636c6173, 0x732061ff, 0x7b207d20, -1, LEAST), 20);
        check.is("are none of a text", g.classes(), -1);
        check.is("at the first", g.fault(1), 7);
        check.is("behind end(7)", g.feed(0, 0, 0, 0, 0), 20);
        g.end(7);
        check.is("it goes on there", g.feed(0, 0, 0, 0, 0), 27);
    }

    private static void feedFull() {
        check.sentence("2: FULL when there would be more than 4000");
        TrialGarden g = new TrialGarden();
        for (int n = 20; n <= 4000; n += 20) {
            check.is("feed", g.feed(0x20202020, 0x20202020, 0x20202020, 0x20202020, 0x20202020), n);
        }
        check.is("4020", g.feed(0, 0, 0, 0, 0), -3);
        check.is("it stays", g.count(1), 4000);
        for (int n = 3978; n <= 3983; n++) {
            g.end(0);
            for (int i = 0; i < 200; i++) {
                g.feed(0x20202020, 0x20202020, 0x20202020, 0x20202020, 0x20202020);
            }
            check.is("end(" + n + ")", g.end(n), n);
            check.is("feed behind " + n, g.feed(0, 0, 0, 0, 0), n <= 3980 ? n + 20 : -3);
            check.is("count(1) behind " + n, g.count(1), n <= 3980 ? n + 20 : n);
        }
        check.is("nothing of it came: blanks alone", g.classes(), -1);
        check.is("so its PLACE is the end", g.fault(1), 3983);
    }

    private static void end() {
        check.sentence("3: THE TAPE has its first n bytes alone: n; NONE when it has not so many, or n is below 0.");
        TrialGarden g = new TrialGarden();
        int[][] empty = {{LEAST, -1}, {-1, -1}, {0, 0}, {1, -1}, {GREATEST, -1}};
        for (int[] one : empty) {
            check.is("end(" + one[0] + ") of none", g.end(one[0]), one[1]);
        }
        Check.onTape(g, "class abc { }");
        check.is("bytes", g.count(1), 13);
        int[][] some = {{LEAST, -1}, {-1, -1}, {14, -1}, {4000, -1}, {GREATEST, -1}, {13, 13}, {13, 13}, {12, 12}, {13, -1}, {1, 1}, {2, -1}, {0, 0}, {1, -1}};
        for (int[] one : some) {
            int had = g.count(1);
            check.is("end(" + one[0] + ") of " + had, g.end(one[0]), one[1]);
            check.is("count(1)", g.count(1), one[1] < 0 ? had : one[1]);
        }
        // Its first n bytes alone: the text is one byte shorter.
        Check.onTape(g, "class abc { }} ");
        check.is("end(13)", g.end(13), 13);
        check.is("without the last }", g.classes(), 1);
        Check.onTape(g, "class abc { }");
        check.is("end(12)", g.end(12), 12);
        check.is("without the first }", g.classes(), -1);
        check.is("its PLACE", g.fault(1), 12);
    }

    private static void classesEmptyTape() {
        check.sentence("4: THE TAPE (empty then) is a text: how many classes");
        TrialGarden g = new TrialGarden();
        for (int n = 1; n <= 8; n++) {
            check.is("classes", Check.tell(g, Texts.numbered(n, "class c", " { } ")), n);
            check.is("count(0)", g.count(0), n);
            check.is("the tape", g.count(1), 0);
            check.is("an empty text", g.classes(), -1);
            check.is("its KIND", g.fault(0), 1);
            check.is("its PLACE", g.fault(1), 0);
            check.is("with a FAULT", Check.tell(g, "class a { ; }"), -1);
            check.is("the tape too", g.count(1), 0);
            check.is("feed", g.feed(0, 0, 0, 0, 0), 20);
            g.end(0);
        }
    }

    private static void classesAsAtFirst() {
        check.sentence("4: all is as at first but for it");
        TrialGarden g = new TrialGarden();
        for (int verdict = -1; verdict <= 8; verdict++) {
            bad(g, verdict);
            check.is("a text", Check.tell(g, "class a { int x; member m() { x = 1; } }"), 1);
            asAtFirst(g);
            check.is("fault(0)", g.fault(0), 0);
            check.is("fault(1)", g.fault(1), -1);
            check.is("count(0)", g.count(0), 1);
            check.is("count(2)", g.count(2), 1);
            check.is("its MODEL", g.about(0, 5), -1);
            check.is("no st begun", g.member(0, 0, 3), 0);
        }
    }

    /** A text whose latest run has this verdict (or is CUT), with a MODEL; behind a draw() and an all(). */
    private static void bad(TrialGarden g, int verdict) {
        String[] members = {"member m() needs 0; { }", "member m() { }", "member m() gives 0; { }", "member m() { x = 1; }", "member m() { throw w; }", "member m() only y; { x = 5; }", "member m() pure; { x = 5; }",
            "member m() { return 1; }", "member m() gives 1 / 0; { }", "member m() { while 1 { } }"};
        check.is("a text", Check.tell(g, "class a { int x; int y; kept x != 1; " + members[verdict + 1] + " } class b { int z; member m() { z = 1; return 0; } }"), 2);
        g.model(0, 1);
        g.all(0, 3);
        check.is("some were tried", g.tried() > 0 ? 1 : 0, 1);
        check.ran(g, "m0 m0 1.0", verdict);
    }

    private static void classesStay() {
        check.sentence("4: NONE with a FAULT: all stays.");
        String fault = "class z { int q; kept q; member m() { ; } }";
        TrialGarden g = new TrialGarden();
        for (int verdict = -1; verdict <= 8; verdict++) {
            bad(g, verdict);
            String ahead = state(g);
            check.is("a FAULT", Check.tell(g, fault), -1);
            check.is("its KIND", g.fault(0), 1);
            check.is("its PLACE", g.fault(1), fault.indexOf("; } }"));
            check.same("all else", state(g), ahead);
            check.is("shrink() as ever", g.shrink() < 0 ? 1 : 0, verdict > 0 ? 0 : 1);
            check.is("run() as ever", g.run(), verdict);
        }
    }

    private static String state(TrialGarden g) {
        StringBuilder all = new StringBuilder(Check.row(g) + " " + Check.thrown(g) + " " + g.verdict() + " " + g.tried() + " " + g.cut() + " " + g.row());
        for (int i = 0; i < 4; i++) {
            all.append(' ').append(g.count(i)).append(' ').append(g.condition(i)).append(' ').append(g.changed(i));
            for (int k = 0; k < 8; k++) {
                all.append(' ').append(g.told(i, k)).append(' ').append(g.cell(i, k)).append(' ').append(g.beside(i, k)).append(' ').append(g.about(i, k));
                all.append(' ').append(g.member(i, 0, k)).append(' ').append(g.member(i, 1, k));
            }
        }
        return all.toString();
    }

    private static void fault() {
        check.sentence("5: Of the latest classes(): its FAULT's KIND (what 0; 0 without, and ahead of any), its PLACE (1; NONE without). NONE for another what.");
        TrialGarden g = new TrialGarden();
        String[] texts = {null, "class a { }", "class a { ; }", "", "class a { kept y; }", "class a { int r[9]; }", "class a { } class b { }"};
        int[][] due = {{0, -1}, {0, -1}, {1, 10}, {1, 0}, {2, 15}, {3, 16}, {0, -1}};
        for (int i = 0; i < texts.length; i++) {
            if (texts[i] != null) {
                Check.tell(g, texts[i]);
            }
            check.is("fault(0) of " + texts[i], g.fault(0), due[i][0]);
            check.is("fault(1) of " + texts[i], g.fault(1), due[i][1]);
            for (int what : new int[] {LEAST, -2, -1, 2, 3, GREATEST}) {
                check.is("fault(" + what + ")", g.fault(what), -1);
            }
            g.feed(0, 0, 0, 0, 0);
            check.is("a tape alone changes nothing", g.fault(0), due[i][0]);
        }
    }

    private static void about() {
        check.sentence("6: Of class c, what 0 .. 5. NONE when there is none such.");
        TrialGarden g = check.garden(THREE);
        int[][] due = {{-1, 2, 4, 2, 2, -1}, {0, 3, 5, 3, 1, -1}, {-1, 0, 0, 0, 0, -1}};
        for (int c : new int[] {LEAST, -2, -1, 0, 1, 2, 3, 4, 8, GREATEST}) {
            for (int what : new int[] {LEAST, -2, -1, 0, 1, 2, 3, 4, 5, 6, 7, GREATEST}) {
                boolean there = c >= 0 && c < 3 && what >= 0 && what < 6;
                check.is("about(" + c + ", " + what + ")", g.about(c, what), there ? due[c][what] : -1);
            }
        }
        g.model(2, 0);
        check.is("its MODEL", g.about(2, 5), 0);
    }

    private static void aboutOrder() {
        check.sentence("6: 3: members it has (in order: those of above, each one that it OVERRIDES in its place, then its others)");
        String text = "class a { member f() { } member g() { } member h() { } } class b above a { member i() { } member g() { } member e() { } member f() { } } class c above b { member e() { } member h() { } member z() { } }";
        TrialGarden g = check.garden(text);
        String[][] names = {{"f", "g", "h"}, {"f", "g", "h", "i", "e"}, {"f", "g", "h", "i", "e", "z"}};
        int[][] tellers = {{0, 0, 0}, {1, 1, 0, 1, 1}, {1, 1, 2, 1, 2, 2}};
        String[] from = {"class a", "class b", "class c"};
        for (int c = 0; c < 3; c++) {
            check.is("members of " + c, g.about(c, 3), names[c].length);
            for (int m = 0; m < names[c].length; m++) {
                check.is("teller", g.member(c, m, 0), tellers[c][m]);
                check.is("place", g.member(c, m, 5), text.indexOf("member " + names[c][m] + "(", text.indexOf(from[tellers[c][m]])) + 7);
            }
            check.is("behind the last", g.member(c, names[c].length, 0), -1);
        }
    }

    private static void member() {
        check.sentence("7: Of member m that class c has, what 0 .. 5. NONE when there is none such.");
        TrialGarden g = check.garden(THREE);
        int mp = THREE.indexOf("m(p");
        int n = THREE.indexOf("n() pure");
        int k = THREE.indexOf("k() { while");
        int last = THREE.lastIndexOf("n() pure");
        int[][][] due = {{{0, 1, 4, 0, 0, mp}, {0, 0, 0, 0, 1, n}}, {{0, 1, 4, 0, 0, mp}, {1, 0, 1, 0, 1, last}, {1, 0, 2, 0, 0, k}}, {}};
        int[] edges = {LEAST, -2, -1, 0, 1, 2, 3, 4, 12, GREATEST};
        for (int c : edges) {
            for (int m : edges) {
                for (int what : new int[] {LEAST, -1, 0, 1, 2, 3, 4, 5, 6, GREATEST}) {
                    boolean there = c >= 0 && c < 3 && m >= 0 && m < due[c].length && what >= 0 && what < 6;
                    check.is("member(" + c + ", " + m + ", " + what + ")", g.member(c, m, what), there ? due[c][m][what] : -1);
                }
            }
        }
        g = check.garden("class a { " + Texts.numbered(12, "member m", "(p in 0 .. 1, q in 0 .. 1, r in 0 .. 1) { let x = 1; " + Texts.times(3, "x = 1; ") + "} ") + "}");
        check.is("the 12th", g.member(0, 11, 2), 4);
        check.is("its params", g.member(0, 11, 1), 3);
        check.is("no 13th", g.member(0, 12, 2), -1);
    }

    private static void memberBegun() {
        check.sentence("7: 2: st in its block (all), 3: of these how many were begun in any run since the text");
        String text = "class a { int x; member m(p in 0 .. 9) needs p < 5; { if p == 1 { x = 1; } else { while p == 2 { return 2; } x = 3; } return 4; } member n() { } }";
        TrialGarden g = check.garden(text);
        check.is("all", g.member(0, 0, 2), 6);
        check.is("none", g.member(0, 0, 3), 0);
        check.is("of an empty block", g.member(0, 1, 2), 0);
        String[] rows = {"m0", "m0 0.0(9)", "m0 0.0(5)", "m0 0.0(1)", "m0 0.0(1) 0.0(1)", "m0 0.0(2)", "m0 0.0(0)", "m0 0.0(4)"};
        int[] verdicts = {0, -1, -1, 0, 0, 0, 0, 0};
        int[] begun = {0, 0, 0, 3, 3, 5, 6, 6};
        for (int i = 0; i < rows.length; i++) {
            check.ran(g, rows[i], verdicts[i]);
            check.is("begun by " + rows[i], g.member(0, 0, 3), begun[i]);
            check.is("of the empty one", g.member(0, 1, 3), 0);
        }
        g.clear();
        check.is("since the text", g.member(0, 0, 3), 6);
        Check.tell(g, "class a { #");
        check.is("a FAULT leaves it", g.member(0, 0, 3), 6);
        // each member's own, of the first, the last and one between
        TrialGarden three = check.garden("class a { member f() { return 1; return 2; } member g() { return 1; return 2; return 3; } member h() { return 1; } } class b above a { member g() { return 4; } }");
        int[] none = {0, 0, 0};
        for (int m = 2; m >= 0; m--) {
            check.ran(three, "m0 0." + m, 0);
            none[m] = 1;
            for (int k = 0; k < 3; k++) {
                check.is("begun of " + k, three.member(0, k, 3), none[k]);
                check.is("begun for the class below", three.member(1, k, 3), k == 1 ? 0 : none[k]);
            }
        }
        check.ran(three, "m1 0.1", 0);
        check.is("the one below", three.member(1, 1, 3), 1);
        for (int i = 0; i < 3; i++) {
            Check.tell(g, text);
            check.is("a text doesn't", g.member(0, 0, 3), 0);
            check.ran(g, "m0 0.0(2)", 0);
            check.is("begun since", g.member(0, 0, 3), 3);
        }
    }

    private static void model() {
        check.sentence("8: Class b is the MODEL of class a (in place of another one; NONE: of none): 1; RANGE.");
        TrialGarden g = check.garden(THREE);
        for (int a : new int[] {LEAST, -2, -1, 0, 1, 2, 3, 8, GREATEST}) {
            for (int b : new int[] {LEAST, -3, -2, -1, 0, 1, 2, 3, 8, GREATEST}) {
                boolean fine = a >= 0 && a < 3 && b >= -1 && b < 3;
                check.is("model(" + a + ", " + b + ")", g.model(a, b), fine ? 1 : -2);
                if (a >= 0 && a < 3) {
                    // what is refused leaves the one that was taken last: none at first, class 2 in the end
                    check.is("about(" + a + ", 5)", g.about(a, 5), fine ? b : b < 0 ? -1 : 2);
                }
            }
        }
        for (int c = 0; c < 3; c++) {
            check.is("each has its own", g.about(c, 5), 2);
        }
        g.model(1, -1);
        check.is("of none", g.about(1, 5), -1);
        check.is("the others stay", g.about(0, 5), 2);
    }

    private static void clear() {
        check.sentence("9: The ROW is empty: how many CALLS it had.");
        TrialGarden g = check.garden("class a { member m() { } }");
        for (int n = 0; n <= 10; n++) {
            for (int i = 0; i < n; i++) {
                check.is("put", i == 0 ? g.make(0) : g.call(0, 0, 0, 0, 0), i == 0 ? 0 : i + 1);
            }
            check.is("clear() of " + n, g.clear(), n);
            check.is("row()", g.row(), 0);
            check.is("told", g.told(0, 0), -1);
            check.is("run()", g.run(), -2);
            check.is("clear() again", g.clear(), 0);
            check.is("no OBJECT is left", g.call(0, 0, 0, 0, 0), -2);
        }
        check.is("numbered from 0 on again", g.make(0), 0);
    }

    private static void makeRange() {
        check.sentence("10: RANGE: no such class");
        for (int classes : new int[] {1, 2, 8}) {
            TrialGarden g = check.garden(Texts.numbered(classes, "class c", " { } "));
            for (int c : new int[] {LEAST, -2, -1, 0, classes - 1, classes, classes + 1, 8, GREATEST}) {
                g.clear();
                boolean there = c >= 0 && c < classes;
                check.is("make(" + c + ") of " + classes, g.make(c), there ? 0 : -2);
                check.is("row()", g.row(), there ? 1 : 0);
            }
        }
    }

    private static void makeFull() {
        check.sentence("10: FULL: 10 CALLS or 3 OBJECTS");
        TrialGarden g = check.garden("class a { member m() { } }");
        for (int objects = 1; objects <= 3; objects++) {
            for (int calls = objects; calls <= 10; calls++) {
                g.clear();
                Check.put(g, Texts.joined(objects, "m0", " ") + Texts.times(calls - objects, " 0.0"));
                check.is("CALLS", g.row(), calls);
                boolean full = objects == 3 || calls == 10;
                check.is("make() behind " + objects + " OBJECTS and " + calls + " CALLS", g.make(0), full ? -3 : objects);
                check.is("row()", g.row(), full ? calls : calls + 1);
                check.is("no such class, full or not", g.make(1), -2);
            }
        }
    }

    private static void callRange() {
        check.sentence("11: RANGE: no such OBJECT, member that its class has");
        TrialGarden g = check.garden("class a { member m() { } member n() { } } class b above a { member o() { } } class c { }");
        Check.put(g, "m0 m1 m2");
        int[] has = {2, 3, 0};
        for (int object : new int[] {LEAST, -2, -1, 0, 1, 2, 3, 4, GREATEST}) {
            for (int member : new int[] {LEAST, -2, -1, 0, 1, 2, 3, 4, 12, GREATEST}) {
                boolean there = object >= 0 && object < 3 && member >= 0 && member < has[object];
                int calls = g.row();
                check.is("call(" + object + ", " + member + ")", g.call(object, member, 0, 0, 0), there ? calls + 1 : -2);
            }
        }
        check.is("CALLS", g.row(), 8);
        for (int objects = 0; objects <= 3; objects++) {
            g.clear();
            for (int o = 0; o < objects; o++) {
                g.make(0);
            }
            check.is("the last OBJECT of " + objects, g.call(objects - 1, 0, 0, 0, 0), objects == 0 ? -2 : objects + 1);
            check.is("one behind", g.call(objects, 0, 0, 0, 0), -2);
        }
    }

    private static void callArguments() {
        check.sentence("11: (arguments that the member doesn't have must be 0) .. or an argument is out of its range");
        String[] params = {"", "p in 2 .. 4", "p in 2 .. 4, q in 2 .. 4", "p in 2 .. 4, q in 2 .. 4, r in 2 .. 4"};
        for (int has = 0; has <= 3; has++) {
            TrialGarden g = check.garden("class a { member m(" + params[has] + ") { } }");
            g.make(0);
            int[] fine = {has > 0 ? 3 : 0, has > 1 ? 3 : 0, has > 2 ? 3 : 0};
            for (int k = 0; k < 3; k++) {
                for (int number : new int[] {LEAST, -1, 0, 1, 2, 3, 4, 5, GREATEST}) {
                    int[] a = fine.clone();
                    a[k] = number;
                    boolean taken = k < has ? number >= 2 && number <= 4 : number == 0;
                    g.clear();
                    g.make(0);
                    check.is(has + " params, argument " + k + " is " + number, g.call(0, 0, a[0], a[1], a[2]), taken ? 2 : -2);
                    check.is("row()", g.row(), taken ? 2 : 1);
                    check.is("told", g.told(1, 2 + k), taken ? number : -1);
                }
            }
        }
        // The range is that of the telling which the object's class has.
        TrialGarden g = check.garden("class a { member m(p in 0 .. 1) { } } class b above a { member m(q in 1 .. 2) { } } class c above b { }");
        Check.put(g, "m0 m1 m2");
        int[][] due = {{1, 1, 0}, {0, 1, 1}, {0, 1, 1}};
        for (int o = 0; o < 3; o++) {
            for (int p = 0; p < 3; p++) {
                check.is("OBJECT " + o + " with " + p, g.call(o, 0, p, 0, 0) > 0 ? 1 : 0, due[o][p]);
            }
        }
    }

    private static void callFull() {
        check.sentence("11: how many CALLS .. FULL");
        TrialGarden g = check.garden("class a { member m(p in 0 .. 1) { } }");
        g.make(0);
        for (int n = 2; n <= 10; n++) {
            check.is("call", g.call(0, 0, 0, 0, 0), n);
        }
        check.is("the 11th", g.call(0, 0, 0, 0, 0), -3);
        check.is("row()", g.row(), 10);
        check.is("RANGE goes ahead", g.call(0, 0, 2, 0, 0), -2);
        check.is("also of an OBJECT", g.call(1, 0, 0, 0, 0), -2);
        check.is("also of a member", g.call(0, 1, 0, 0, 0), -2);
        check.is("nothing came", g.told(10, 0), -1);
        check.is("run()", g.run(), 0);
        check.is("clear()", g.clear(), 10);
    }

    /** What is refused leaves all as it was: in a new object, with a text, with a full ROW, behind each verdict. */
    private static void refused() {
        check.sentence("NONE: There is none. RANGE: A number that can't be. FULL: No room.");
        for (int verdict = -4; verdict <= 8; verdict++) {
            TrialGarden g = new TrialGarden();
            if (verdict == -3) {
                Check.tell(g, "class a { member m(p in 0 .. 1) { } }");
            } else if (verdict == -2) {
                Check.tell(g, "class a { member m(p in 0 .. 1) { } }");
                Check.put(g, "m0 m0 m0 0.0 0.0 0.0 0.0 0.0 0.0 0.0");
                check.is("the 11th CALL", g.call(0, 0, 0, 0, 0), -3);
                check.is("the 4th OBJECT", g.make(0), -3);
            } else if (verdict >= -1) {
                bad(g, verdict);
            }
            Check.onTape(g, "class");
            String ahead = state(g);
            int[] due = {-1, -1, -2, -2, -2, -2, -2, -2, -2, -2, -2, -2, -2, -2};
            int[] got = {g.end(6), g.end(-1), g.model(-1, 0), g.model(9, -1), g.model(0, 9), g.make(-1), g.make(9), g.call(3, 0, 0, 0, 0), g.call(-1, 0, 0, 0, 0), g.call(0, 12, 0, 0, 0), g.draw(0, 1, 0),
                g.draw(-1, 1, 1), g.all(0, 5), g.all(9, 1)};
            for (int i = 0; i < due.length; i++) {
                check.is("refused call " + i, got[i], due[i]);
            }
            check.is("run() of none", g.row() == 0 ? g.run() : -2, -2);
            check.is("shrink() of what is not bad", g.verdict() <= 0 ? g.shrink() : -2, -2);
            check.same("all stays", state(g), ahead);
            check.is("the tape too", g.count(1), 5);
        }
    }

    private static void run() {
        check.sentence("12: its verdict; 0 without one; -1 when it is CUT; RANGE when it is empty");
        TrialGarden g = new TrialGarden();
        check.is("an empty one", g.run(), -2);
        for (int verdict = -1; verdict <= 8; verdict++) {
            bad(g, verdict);
            check.is("again", g.run(), verdict);
            g.clear();
            check.is("an empty one", g.run(), -2);
            check.is("it is not told of", g.verdict(), verdict);
            check.is("nor are its OBJECTS", g.count(3), 2);
            g.make(1);
            check.is("MAKE alone", g.run(), 0);
            check.is("it is told of", g.verdict(), 0);
            check.is("with its OBJECT", g.count(3), 1);
        }
    }
}
