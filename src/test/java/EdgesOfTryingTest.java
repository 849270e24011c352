import java.util.ArrayList;
import java.util.HashMap;
import java.util.List;
import java.util.Map;

/** Promises 13 to 17: each sentence on draw(), all(), tried(), cut() and shrink() that has a boundary. */
public final class EdgesOfTryingTest {
    private static final Check check = new Check();
    private static final int LEAST = Integer.MIN_VALUE;
    private static final int GREATEST = Integer.MAX_VALUE;

    public static void main(String[] args) {
        drawRange();
        drawUntilBad();
        drawLast();
        drawSeed();
        drawNext();
        drawCalls();
        drawMake();
        drawWithoutMembers();
        drawArguments();
        allRange();
        allLengths();
        allUntil600();
        allOrder();
        allArguments();
        allMake();
        allCut();
        tried();
        cut();
        shrinkRange();
        shrinkCalls();
        shrinkMakes();
        shrinkFirst();
        shrinkHalf();
        shrinkOrder();
        shrinkAlike();
        shrinkTold();
        check.end();
    }

    private static void drawRange() {
        check.sentence("13: RANGE: no such class; n is not 1 .. 100.");
        TrialGarden g = check.garden("class a { int x; member m() { x = 1; } } class b { }");
        check.is("a row to stay", g.draw(0, 3, 2), 0);
        String row = Check.row(g);
        for (int c : new int[] {LEAST, -2, -1, 2, 3, 8, GREATEST}) {
            check.is("draw(" + c + ")", g.draw(c, 1, 1), -2);
        }
        for (int n : new int[] {LEAST, -1, 0, 101, 102, GREATEST}) {
            check.is("n " + n, g.draw(0, 1, n), -2);
        }
        check.same("the ROW stays", Check.row(g), row);
        check.is("what is told stays", g.verdict(), 0);
        for (int n : new int[] {1, 2, 99, 100}) {
            for (int c = 0; c < 2; c++) {
                check.is("n " + n, g.draw(c, 1, n), 0);
                check.is("tried() " + n, g.tried(), n);
            }
        }
    }

    private static void drawUntilBad() {
        check.sentence("13: Rows are drawn for a class, and run, until one is bad; that is the ROW then, and told of: its verdict");
        TrialGarden g = check.garden("class a { int x; kept x <= 14; member m(p in 0 .. 9) { x = x + p; return x; } }");
        int[][] members = {{0, 9}};
        int first = 0;
        for (int seed = 0; seed < 40; seed++) {
            check.is("bad", g.draw(0, seed, 100), 2);
            int n = g.tried();
            first += n == 1 ? 1 : 0;
            check.same("the ROW", Check.row(g), new Drawn().row(0, seed, n - 1, members));
            check.is("told of: verdict()", g.verdict(), 2);
            check.is("told of: condition", g.condition(3), 3);
            check.is("with n", g.draw(0, seed, n), 2);
            check.is("tried()", g.tried(), n);
            if (n < 100) {
                check.is("with n + 1", g.draw(0, seed, n + 1), 2);
                check.is("tried()", g.tried(), n);
            }
            if (n > 1) {
                check.is("with n - 1", g.draw(0, seed, n - 1), 0);
                check.is("tried()", g.tried(), n - 1);
            }
        }
        check.is("some at the first row, some behind", first > 0 && first < 40 ? 1 : 0, 1);
        // Each verdict is bad; what is CUT is not.
        for (int verdict = -1; verdict <= 8; verdict++) {
            g = verdicts(verdict);
            check.is("draw() with " + verdict, g.draw(0, 1, 100), Math.max(verdict, 0));
            check.is("all() with " + verdict, g.all(0, 2), Math.max(verdict, 0));
            check.is("tried()", g.tried(), verdict > 0 ? 2 : 3);
            check.is("verdict()", g.verdict(), Math.max(verdict, 0));
            check.is("shrink() with " + verdict, g.shrink(), verdict > 0 ? 0 : -2);
        }
    }

    /** A class whose one member has this verdict whenever it is called, with a MODEL. */
    private static TrialGarden verdicts(int verdict) {
        String[] members = {"member m() needs 0; { }", "member m() { }", "member m() gives 0; { }", "member m() { x = 1; }", "member m() { throw w; }", "member m() only y; { x = 5; }", "member m() pure; { x = 5; }",
            "member m() { return 1; }", "member m() gives 1 / 0; { }", "member m() { while 1 { } }"};
        TrialGarden g = check.garden("class a { int x; int y; kept x != 1; " + members[verdict + 1] + " } class b { member m() { return 0; } }");
        g.model(0, 1);
        return g;
    }

    private static void drawLast() {
        check.sentence("13: 0 without one (then the last one is)");
        TrialGarden g = check.garden("class a { member m(p in 0 .. 1) needs p; { return 7; } }");
        int[][] members = {{0, 1}};
        int seen = 0;
        for (int n = 1; n <= 40; n++) {
            check.is("draw()", g.draw(0, 11, n), 0);
            String row = new Drawn().row(0, 11, n - 1, members);
            check.same("the last of " + n, Check.row(g), row);
            check.is("told of, CUT or not", g.verdict(), row.contains("(0,") ? -1 : 0);
            seen |= row.contains("(0,") ? 1 : 2;
            boolean gone = false;
            for (int k = 0; k < g.row(); k++) {
                gone |= g.told(k, 1) == 0 && g.told(k, 2) == 0;
                check.is("done", g.told(k, 6), gone ? 0 : 1);
                check.is("gave", g.told(k, 5), gone || g.told(k, 1) < 0 ? 0 : 7);
            }
        }
        check.is("both", seen, 3);
    }

    private static void drawSeed() {
        check.sentence("13: Row i, from 0 on, by numbers x: at first seed + 7919 i");
        TrialGarden g = check.garden("class a { member m(p in -999999999 .. 999999999) { } member n(p in 0 .. 9, q in -5 .. 5) { } }");
        for (int seed : new int[] {0, 1, -1, 7919, -7919, LEAST, LEAST + 1, GREATEST, GREATEST - 7918, GREATEST - 7919, GREATEST - 99 * 7919}) {
            for (int i : new int[] {0, 1, 2, 98, 99}) {
                g.draw(0, seed, i + 1);
                String row = Check.row(g);
                g.draw(0, seed + 7919 * i, 1);
                check.same("row " + i + " of " + seed, Check.row(g), row);
                check.same("and drawn here", new Drawn().row(0, seed, i, new int[][] {{-999999999, 999999999}, {0, 9, -5, 5}}), row);
            }
        }
    }

    private static void drawNext() {
        check.sentence("13: NEXT: x = 1103515245 x + 12345, and x / 65536 without its sign (bits 16 .. 30)");
        // 1 + NEXT % 10 of seeds whose x is told: 12345 + 1103515245 * seed, bits 16 .. 30
        TrialGarden g = check.garden("class a { member m() { } }");
        int negative = 0;
        for (int seed = -300; seed <= 300; seed++) {
            long x = (1103515245L * seed + 12345) & 0xffffffffL;
            negative += x >= 1L << 31 ? 1 : 0;
            long next = (x >> 16) & 0x7fff;
            g.draw(0, seed, 1);
            check.is("CALLS by seed " + seed, g.row(), 1 + next % 10);
        }
        check.is("both signs", negative > 100 && negative < 500 ? 1 : 0, 1);
    }

    private static void drawCalls() {
        check.sentence("13: It has 1 + NEXT % 10 CALLS: the first is MAKE");
        TrialGarden g = check.garden("class z { } class a { member m() { } }");
        int[] sizes = new int[12];
        for (int seed = 0; seed < 400; seed++) {
            g.draw(1, seed, 1);
            sizes[g.row()]++;
            check.is("the first is MAKE", g.told(0, 1), -1);
            check.is("of the class", g.told(0, 2), 1);
        }
        for (int n = 0; n < 12; n++) {
            check.is("rows of " + n + " CALLS", sizes[n] > 0 ? 1 : 0, n >= 1 && n <= 10 ? 1 : 0);
        }
    }

    private static void drawMake() {
        check.sentence("13: with NEXT % 8 = 0, and fewer than 3 OBJECTS, MAKE; else the OBJECT is NEXT % how many there are, the member NEXT % how many");
        TrialGarden g = check.garden("class a { " + Texts.numbered(12, "member m", "() { } ") + "}");
        int[][] members = new int[12][0];
        Drawn drawn = new Drawn();
        int[] objects = new int[5];
        boolean[] called = new boolean[12];
        boolean[] on = new boolean[4];
        for (int seed = 0; seed < 600; seed++) {
            check.is("draw()", g.draw(0, seed, 1), 0);
            check.same("row of " + seed, Check.row(g), drawn.row(0, seed, 0, members));
            objects[g.count(3)]++;
            for (int i = 0; i < g.row(); i++) {
                on[g.told(i, 0)] = true;
                if (g.told(i, 1) >= 0) {
                    called[g.told(i, 1)] = true;
                }
            }
        }
        for (int n = 0; n < 5; n++) {
            check.is("rows with " + n + " OBJECTS", objects[n] > 0 ? 1 : 0, n >= 1 && n <= 3 ? 1 : 0);
        }
        check.is("a MAKE was refused with 3 OBJECTS", drawn.refusedMakes > 0 ? 1 : 0, 1);
        check.is("the first member", called[0] ? 1 : 0, 1);
        check.is("the last member", called[11] ? 1 : 0, 1);
        check.is("the last OBJECT", on[2] ? 1 : 0, 1);
        check.is("none behind it", on[3] ? 1 : 0, 0);
    }

    private static void drawWithoutMembers() {
        check.sentence("13: (without any: MAKE if there are fewer than 3 OBJECTS, else the row ends there)");
        TrialGarden g = check.garden("class z { member m() { } } class a { int x = 4; }");
        int[] sizes = new int[11];
        for (int seed = 0; seed < 200; seed++) {
            int size = new Drawn().row(1, seed, 0, new int[][] {{}}).split(" ").length;
            check.is("draw()", g.draw(1, seed, 1), 0);
            check.is("MAKES for " + size, g.row(), Math.min(size, 3));
            for (int i = 0; i < g.row(); i++) {
                check.is("MAKE", g.told(i, 1), -1);
                check.is("of the class", g.told(i, 2), 1);
            }
            sizes[size]++;
        }
        for (int n : new int[] {1, 2, 3, 4, 10}) {
            check.is("rows told with " + n + " CALLS came", sizes[n] > 0 ? 1 : 0, 1);
        }
    }

    private static void drawArguments() {
        check.sentence("13: each argument, by NEXT % 4: 0 the low, 1 the high end, 2 the 0 (the low end, if it is out of range), 3 low + NEXT % (high - low + 1) (as numbers of 64 bits)");
        int[][] ranges = {{-1, 1}, {-1, 0}, {0, 1}, {0, 0}, {1, 2}, {-2, -1}, {5, 5}, {-5, -5}, {0, 32766}, {0, 32767}, {0, 32768}, {-999999999, 999999999}, {-999999999, -1}, {1, 999999999}, {-999999999, 0}};
        for (int[] range : ranges) {
            String param = " in " + range[0] + " .. " + range[1];
            TrialGarden g = check.garden("class a { member m(p" + param + ", q in 7 .. 9, r" + param + ") { } }");
            Drawn drawn = new Drawn();
            for (int seed = 1; seed <= 30; seed++) {
                g.draw(0, seed, 1);
                check.same("within " + range[0] + " .. " + range[1], Check.row(g), drawn.row(0, seed, 0, new int[][] {{range[0], range[1], 7, 9, range[0], range[1]}}));
            }
            for (int way = 0; way < 4; way++) {
                check.is("way " + way + " came", drawn.ways[way] > 5 ? 1 : 0, 1);
            }
        }
    }

    private static void allRange() {
        check.sentence("14: up to size CALLS (1 .. 4); RANGE: no such class");
        TrialGarden g = check.garden("class a { member m() { } } class b { }");
        check.is("a row to stay", g.all(0, 2), 0);
        for (int size : new int[] {LEAST, -1, 0, 5, 6, GREATEST}) {
            check.is("size " + size, g.all(0, size), -2);
        }
        for (int c : new int[] {LEAST, -2, -1, 2, 3, 8, GREATEST}) {
            check.is("all(" + c + ")", g.all(c, 1), -2);
        }
        check.same("the ROW stays", Check.row(g), "m0 m0");
        int[] tried = {1, 3, 8, 22};
        for (int size = 1; size <= 4; size++) {
            check.is("size " + size, g.all(0, size), 0);
            check.is("tried()", g.tried(), tried[size - 1]);
            check.is("the last one's CALLS", g.row(), size);
            check.is("without members", g.all(1, size), 0);
            check.is("MAKES alone", g.tried(), Math.min(size, 3));
            check.is("the last one's CALLS", g.row(), Math.min(size, 3));
        }
    }

    private static void allLengths() {
        check.sentence("14: All rows for a class of 1, then 2, .. up to size CALLS are run");
        // bad with the n-th CALL on one OBJECT
        for (int n = 1; n <= 4; n++) {
            TrialGarden g = check.garden("class a { int x; kept x < " + n + "; member m() { x = x + 1; } }");
            for (int size = 1; size <= 4; size++) {
                check.is(n + " CALLS within " + size, g.all(0, size), size > n ? 2 : 0);
                check.is("the ROW", g.row(), size > n ? n + 1 : size);
            }
        }
        TrialGarden g = check.garden("class a { kept 0; }");
        check.is("the first of all", g.all(0, 4), 2);
        check.is("tried()", g.tried(), 1);
    }

    /** The 599th, 600th, 601st of all rows are, behind m0 0.0(1,-1,1), the CALLS with 0 -1 -1, 0 -1 0, 0 -1 1. */
    private static void allUntil600() {
        check.sentence("14: until one is bad, or 600 were");
        String text = "class a { int n; int h; member f(p in -1 .. 1, q in -1 .. 1, r in -1 .. 1) gives n != 2 || h != %s; { n = n + 1; h = h * 27 + p * 9 + q * 3 + r; } }";
        int ahead = (9 - 3 + 1) * 27;
        int[] last = {ahead - 3 - 1, ahead - 3, ahead - 3 + 1};
        String[] rows = {"0.0(0,-1,-1)", "0.0(0,-1,0)", "0.0(0,-1,1)"};
        for (int i = 0; i < 3; i++) {
            TrialGarden g = check.garden(text.formatted(last[i]));
            check.is("the bad one is number " + (599 + i), g.all(0, 4), i < 2 ? 1 : 0);
            check.is("tried()", g.tried(), i < 2 ? 599 + i : 600);
            check.same("the ROW", Check.row(g), "m0 0.0(1,-1,1) " + rows[Math.min(i, 1)]);
        }
        // with o CALLS of one OBJECT o * o * o + 8 * o * o + 10 * o + 3 rows: 567 and 808
        TrialGarden g = check.garden("class a { " + Texts.numbered(6, "member m", "() { } ") + "}");
        check.is("567", g.all(0, 4), 0);
        check.is("all of them", g.tried(), 567);
        check.same("the last of all", Check.row(g), "m0 m0 m0 2.5(0,0,0)");
        g = check.garden("class a { " + Texts.numbered(7, "member m", "() { } ") + "}");
        check.is("808", g.all(0, 4), 0);
        check.is("600 of them", g.tried(), 600);
    }

    /** All rows of a class with members of these ranges, in the order of promise 14. */
    private static List<String> rows(int[][][] members, int size) {
        List<String> all = new ArrayList<>();
        for (int length = 1; length <= size; length++) {
            rowsBehind(all, "m0", 1, length - 1, members);
        }
        return all;
    }

    private static void rowsBehind(List<String> all, String ahead, int objects, int left, int[][][] members) {
        if (left == 0) {
            all.add(ahead);
            return;
        }
        for (int m = 0; m < members.length; m++) {
            for (int o = 0; o < objects; o++) {
                for (String arguments : arguments(members[m], 0, "")) {
                    rowsBehind(all, ahead + " " + o + "." + m + "(" + arguments.substring(1) + ")", objects, left - 1, members);
                }
            }
        }
        if (objects < 3) {
            rowsBehind(all, ahead + " m0", objects + 1, left - 1, members);
        }
    }

    private static List<String> arguments(int[][] ranges, int k, String ahead) {
        if (k == 3) {
            return List.of(ahead);
        }
        List<String> all = new ArrayList<>();
        int[] numbers = k >= ranges.length ? new int[] {0} : numbers(ranges[k][0], ranges[k][1]);
        for (int number : numbers) {
            all.addAll(arguments(ranges, k + 1, ahead + "," + number));
        }
        return all;
    }

    private static int[] numbers(int low, int high) {
        if (low < 0 && high > 0) {
            return new int[] {low, 0, high};
        }
        return low == high ? new int[] {low} : new int[] {low, high};
    }

    private static void allOrder() {
        check.sentence("14: Of one length in the order of their CALLS: the first is MAKE; each other one of, in this order: the members, for each the OBJECTS, for each the arguments (the first one slowest) ..; then MAKE");
        int[][][] members = {{{-1, 1}, {0, 1}}, {{3, 3}}, {}};
        String head = "class a { int h; ";
        String[] texts = {"member f(p in -1 .. 1, q in 0 .. 1) gives h != %d; { h = h * 10 + (p + 1) * 2 + q + 1; } ", "member g(p in 3 .. 3) gives h != %d; { h = h * 10 + 7; } ", "member k() gives h != %d; { h = h * 10 + 8; } "};
        List<String> rows = rows(members, 3);
        check.is("rows of 3", rows.size(), 9 * 11);
        // What was called on the OBJECT of the last CALL tells the first row in which that is so.
        Map<Integer, Integer> first = new HashMap<>();
        for (int i = 0; i < rows.size(); i++) {
            String[] calls = rows.get(i).split(" ");
            String last = calls[calls.length - 1];
            if (last.startsWith("m")) {
                continue;
            }
            int h = 0;
            for (String call : calls) {
                if (!call.startsWith("m") && call.charAt(0) == last.charAt(0)) {
                    h = called(h, call);
                }
            }
            first.putIfAbsent(h, i);
        }
        for (Map.Entry<Integer, Integer> one : first.entrySet()) {
            TrialGarden g = check.garden(head + texts[0].formatted(one.getKey()) + texts[1].formatted(one.getKey()) + texts[2].formatted(one.getKey()) + "}");
            check.is("bad", g.all(0, 3), 1);
            check.same("the first row with " + one.getKey(), Check.row(g), rows.get(one.getValue()));
            check.is("its number", g.tried(), one.getValue() + 1);
        }
        check.is("rows of CALLS on one OBJECT", first.size(), 8 + 64);
        // Rows of other classes, drawn or one's own, that were there ahead change nothing.
        TrialGarden g = check.garden("class a { member f(p in -1 .. 1, q in 0 .. 1) { } member g(p in 3 .. 3) { } member k() { } } class b { member f() { } } class c { member e() { } member f() { } member g(p in 0 .. 9, q in -9 .. 9, r in 1 .. 2) { } }");
        for (int c = 0; c < 3; c++) {
            for (int other = 0; other < 3; other++) {
                for (int seed = 0; seed < 3; seed++) {
                    g.draw(other, seed, 50);
                    check.is("all()", g.all(c, 3), 0);
                    int calls = c == 0 ? 8 : c == 1 ? 1 : 2 + 12;
                    check.is("tried()", g.tried(), (calls + 1) * (calls + 3));
                    check.ran(g, "m" + other + " m" + (other + seed) % 3 + " m" + other, 0);
                    check.is("all()", g.all(c, 3), 0);
                    check.is("tried()", g.tried(), (calls + 1) * (calls + 3));
                }
            }
        }
    }

    private static int called(int h, String call) {
        if (call.charAt(2) != '0') {
            return h * 10 + (call.charAt(2) == '1' ? 7 : 8);
        }
        String[] numbers = call.substring(4).split(",");
        int p = Integer.parseInt(numbers[0]);
        int q = Integer.parseInt(numbers[1]);
        return h * 10 + (p + 1) * 2 + q + 1;
    }

    private static void allArguments() {
        check.sentence("14: of each of these: low, 0 (if it lies between), high (if it is not the low one)");
        int[][] ranges = {{-1, 1}, {-9, 9}, {-1, 0}, {0, 1}, {0, 0}, {1, 2}, {-2, -1}, {1, 1}, {-1, -1}, {-999999999, 999999999}, {-999999999, 0}, {0, 999999999}};
        TrialGarden same = new TrialGarden();
        for (int[] range : ranges) {
            // in one garden, with and without params in turn: arguments that a member doesn't have are 0
            for (int turn = 0; turn < 2; turn++) {
                Check.tell(same, "class a { member f(p in " + range[0] + " .. " + range[1] + ", q in 5 .. 5, r in -5 .. -5) { } }");
            }
            for (int turn = 0; turn < 2; turn++) {
                Check.tell(same, "class a { member f() { } }");
                check.is("all()", same.all(0, 3), 0);
                check.is("rows", same.tried(), 8);
                check.ran(same, "m0 0.0", 0);
                check.is("all()", same.all(0, 2), 0);
                Check.tell(same, "class a { member f() gives 0; { } }");
                check.is("all()", same.all(0, 2), 1);
                check.same("without params", Check.row(same), "m0 0.0(0,0,0)");
            }
            int[] numbers = numbers(range[0], range[1]);
            for (int i = 0; i <= numbers.length; i++) {
                String number = i < numbers.length ? String.valueOf(numbers[i]) : "p + 1";
                TrialGarden g = check.garden("class a { member f(p in " + range[0] + " .. " + range[1] + ") gives p != " + number + "; { } }");
                check.is("with " + number + " of " + range[0] + " .. " + range[1], g.all(0, 2), i < numbers.length ? 1 : 0);
                check.is("number " + i, g.tried(), i < numbers.length ? 2 + i : 2 + numbers.length);
            }
            // no others
            int others = 0;
            for (int k = range[0] + 1; k < range[1] && k < range[0] + 20; k++) {
                TrialGarden g = check.garden("class a { member f(p in " + range[0] + " .. " + range[1] + ") gives p != " + k + "; { } }");
                others += k != 0 && g.all(0, 2) != 0 ? 1 : 0;
            }
            check.is("others between", others, 0);
        }
    }

    private static void allMake() {
        check.sentence("14: then MAKE, with fewer than 3 OBJECTS");
        TrialGarden g = check.garden("class a { }");
        int[] tried = {1, 2, 3, 3};
        for (int size = 1; size <= 4; size++) {
            check.is("without members", g.all(0, size), 0);
            check.is("tried()", g.tried(), tried[size - 1]);
        }
        check.same("the last", Check.row(g), "m0 m0 m0");
        g = check.garden("class a { member f() { } }");
        String[] last = {"m0", "m0 m0", "m0 m0 m0", "m0 m0 m0 2.0(0,0,0)"};
        for (int size = 1; size <= 4; size++) {
            check.is("all()", g.all(0, size), 0);
            check.same("the last", Check.row(g), last[size - 1]);
        }
    }

    private static void allCut() {
        check.sentence("14: A row that is CUT ahead of its end is not run, nor counted.");
        // with so many CALLS on an OBJECT done, each further one is CUT
        int[][] tried = {{1, 3, 6, 9}, {1, 3, 8, 20}, {1, 3, 8, 22}};
        int[][] cut = {{0, 1, 3, 6}, {0, 0, 1, 4}, {0, 0, 0, 1}};
        for (int n = 0; n <= 2; n++) {
            TrialGarden g = check.garden("class a { int x; member f() needs x < " + n + "; { x = x + 1; } }");
            for (int size = 1; size <= 4; size++) {
                check.is("all()", g.all(0, size), 0);
                check.is("tried() with " + n + ", " + size, g.tried(), tried[n][size - 1]);
                check.is("cut() with " + n + ", " + size, g.cut(), cut[n][size - 1]);
            }
        }
        // CUT at its end it is run, counted and told of.
        TrialGarden g = check.garden("class a { member f() needs 0; { } }");
        check.is("all()", g.all(0, 4), 0);
        check.same("the last that was run", Check.row(g), "m0 m0 m0 2.0(0,0,0)");
        check.is("told of", g.verdict(), -1);
        // A bad row behind one that is CUT is not come to.
        g = check.garden("class a { member f(p in 0 .. 1) needs p == 0; { } member k() gives 0; needs 0; { } }");
        check.is("all()", g.all(0, 3), 0);
    }

    private static void tried() {
        check.sentence("15: How many rows the latest draw() or all() ran (0 ahead of any).");
        TrialGarden g = check.garden("class a { int x; kept x < 30; member m(p in 1 .. 1) { x = x + 1; } }");
        check.is("ahead of any", g.tried(), 0);
        check.ran(g, "m0 0.0(1)", 0);
        check.is("run() is none", g.tried(), 0);
        g.draw(0, 1, 1);
        check.is("draw of 1", g.tried(), 1);
        g.draw(0, 1, 100);
        check.is("draw of 100", g.tried(), 100);
        g.all(0, 1);
        check.is("all of 1", g.tried(), 1);
        g.all(0, 4);
        check.is("all of 4", g.tried(), 22);
        check.ran(g, "m0 0.0(1)", 0);
        g.shrink();
        g.clear();
        check.is("nothing else changes it", g.tried(), 22);
        Check.tell(g, "class a { }");
        check.is("as at first", g.tried(), 0);
    }

    private static void cut() {
        check.sentence("16: How many of these were CUT.");
        for (int high = 0; high <= 2; high++) {
            TrialGarden g = check.garden("class a { member m(p in 0 .. 2) needs p >= " + (3 - high) + "; { } }");
            check.is("ahead of any", g.cut(), 0);
            int[][] members = {{0, 2}};
            int due = 0;
            for (int i = 0; i < 100; i++) {
                String row = new Drawn().row(0, 5, i, members);
                boolean isCut = false;
                for (int p = 0; p < 3 - high; p++) {
                    isCut |= row.contains("(" + p + ",");
                }
                due += isCut ? 1 : 0;
            }
            for (int turn = 0; turn < 2; turn++) {
                check.is("draw()", g.draw(0, 5, 100), 0);
                check.is("cut()", g.cut(), due);
                check.is("tried()", g.tried(), 100);
            }
            check.ran(g, "m0 0.0(0)", -1);
            check.is("run() is none", g.cut(), due);
            check.is("all()", g.all(0, 2), 0);
            check.is("tried()", g.tried(), 4);
            check.is("cut() of all()", g.cut(), high == 0 ? 2 : 1);
            g.all(0, 1);
            check.is("none", g.cut(), 0);
        }
    }

    private static void shrinkRange() {
        check.sentence("17: RANGE: the latest run was not bad, or CALLS came or went since.");
        TrialGarden g = new TrialGarden();
        check.is("ahead of any", g.shrink(), -2);
        Check.tell(g, "class a { int x; kept x < 5; member m(p in 0 .. 9) needs p != 1; { x = p; } }");
        check.is("with a text", g.shrink(), -2);
        check.ran(g, "m0 0.0(4)", 0);
        check.is("not bad", g.shrink(), -2);
        check.ran(g, "m0 0.0(1)", -1);
        check.is("CUT", g.shrink(), -2);
        check.ran(g, "m0 0.0(5)", 2);
        check.is("bad", g.shrink(), 0);
        check.is("and again", g.shrink(), 0);
        g.call(0, 0, 0, 0, 0);
        check.is("a CALL came", g.shrink(), -2);
        check.is("run()", g.run(), 2);
        check.is("run since", g.shrink(), 1);
        g.make(0);
        check.is("a MAKE came", g.shrink(), -2);
        check.ran(g, "m0 0.0(5)", 2);
        g.clear();
        check.is("CALLS went", g.shrink(), -2);
        Check.put(g, "m0 0.0(5)");
        check.is("the same came again", g.shrink(), -2);
        check.ran(g, "m0 0.0(5)", 2);
        check.is("one that is refused", g.call(0, 0, 10, 0, 0), -2);
        check.is("and a MAKE", g.make(1), -2);
        check.is("nothing came", g.shrink(), 0);
        check.is("a FAULT", Check.tell(g, "class #"), -1);
        check.is("all stays", g.shrink(), 0);
        check.is("draw() out of range", g.draw(0, 1, 0), -2);
        check.is("all() out of range", g.all(0, 0), -2);
        check.is("all stays", g.shrink(), 0);
        check.is("all() with none bad", g.all(0, 1), 0);
        check.is("the latest run is not bad", g.shrink(), -2);
        check.ran(g, "m0 0.0(5)", 2);
        check.is("a text", Check.tell(g, "class a { }"), 1);
        check.is("as at first", g.shrink(), -2);
    }

    /** A ROW of this text is bad, and is made least so. */
    private static TrialGarden shrunk(String text, String row, int verdict, int taken, String least) {
        TrialGarden g = check.ran(text, row, verdict);
        check.is("shrink() of " + row, g.shrink(), taken);
        check.same("the least of " + row, Check.row(g), least);
        check.is("its verdict", g.verdict(), verdict);
        check.is("it is least", g.shrink(), 0);
        return g;
    }

    private static void shrinkCalls() {
        check.sentence("17: in order, the ROW without CALL i (..; i from 0 on; not an empty one)");
        String text = "class a { int x; kept x < 2; member m() { x = x + 1; } member n() { } }";
        shrunk(text, "m0 0.0 0.0", 2, 0, "m0 0.0(0,0,0) 0.0(0,0,0)");
        shrunk(text, "m0 0.0 0.1 0.0", 2, 1, "m0 0.0(0,0,0) 0.0(0,0,0)");
        shrunk(text, "m0 0.1 0.0 0.1 0.0 0.1 0.0 0.1", 2, 5, "m0 0.0(0,0,0) 0.0(0,0,0)");
        shrunk(text, "m0 0.1 0.1 0.1 0.1 0.1 0.1 0.1 0.0 0.0", 2, 7, "m0 0.0(0,0,0) 0.0(0,0,0)");
        // What stays is as it was; the last of ten is looked at, up to the half of its third argument.
        shrunk("class a { int y; kept y == 0; member m(p in 0 .. 9, q in 0 .. 9, r in 0 .. 9) { if p == 1 && q == 2 && r == 3 { y = 1; } } member n() { } }", "m0 0.1 0.0(1,2,3) 0.1", 2, 2, "m0 0.0(1,2,3)");
        shrunk("class a { int x; int y; kept y == 0; member m(p in 0 .. 9, q in 0 .. 9, r in 0 .. 9) { x = x + 1; if x == 9 && r > 3 { y = 1; } } }",
            "m0 0.0 0.0 0.0 0.0 0.0 0.0 0.0 0.0 0.0(0,0,9)", 2, 1, "m0" + Texts.times(8, " 0.0(0,0,0)") + " 0.0(0,0,4)");
        shrunk("class a { kept 0; }", "m0", 2, 0, "m0");
        shrunk("class a { int x; kept x; }", "m0", 2, 0, "m0");
        // The first that breaks: of two that may go, the first goes.
        shrunk("class a { int x; kept x == 0 || x == 1 || x == 2; member f(p in 0 .. 9) { x = x + p; } }", "m0 0.0(2) 0.0(1)", 2, 0, "m0 0.0(2,0,0) 0.0(1,0,0)");
        shrunk("class a { int x; int y; kept y == 0; member f() { x = x + 1; if x > 1 { y = 1; } } member k() { if x { y = 1; } } }", "m0 0.0 0.0", 2, 0, "m0 0.0(0,0,0) 0.0(0,0,0)");
        shrunk("class a { int x; int y; kept y == 0; member f() { x = 1; } member e() { x = 1; } member k() { if x { y = 1; } } }", "m0 0.0 0.1 0.2", 2, 1, "m0 0.1(0,0,0) 0.2(0,0,0)");
        shrunk("class a { int x; int y; kept y == 0; member f() { x = 1; } member e() { x = 1; } member k() { if x { y = 1; } } }", "m0 0.1 0.0 0.2", 2, 1, "m0 0.0(0,0,0) 0.2(0,0,0)");
    }

    private static void shrinkMakes() {
        check.sentence("17: (of a MAKE all on its OBJECT, too ..) (OBJECTS are numbered anew.)");
        String text = "class a { int x; kept x < 2; member m() { x = x + 1; } } class b { member n() { } }";
        TrialGarden g = shrunk(text, "m1 m0 1.0 1.0", 2, 1, "m0 0.0(0,0,0) 0.0(0,0,0)");
        check.is("which OBJECT", g.condition(1), 0);
        check.is("OBJECTS", g.count(3), 1);
        shrunk(text, "m1 0.0 0.0 m1 m0 1.0 2.0 0.0 2.0", 2, 2, "m0 0.0(0,0,0) 0.0(0,0,0)");
        shrunk(text, "m0 m0 0.0 1.0 1.0 m0", 2, 2, "m0 0.0(0,0,0) 0.0(0,0,0)");
        shrunk(text, "m0 m0 0.0 1.0 0.0 m0", 2, 2, "m0 0.0(0,0,0) 0.0(0,0,0)");
        // The first MAKE whose OBJECT matters stays, those about it go.
        g = shrunk(text, "m1 m0 m1 1.0 2.0 0.0 1.0", 2, 2, "m0 0.0(0,0,0) 0.0(0,0,0)");
        check.is("a CALL on it", g.call(0, 0, 0, 0, 0), 4);
        check.is("none on another", g.call(1, 0, 0, 0, 0), -2);
        check.is("the next MAKE", g.make(1), 1);
        check.is("its members", g.call(1, 0, 0, 0, 0), 6);
        shrunk("class a { kept 1; } class b { kept 0; }", "m0 m0 m1", 2, 2, "m1");
        shrunk("class a { kept 1; } class b { kept 0; }", "m0 m1 m0", 2, 2, "m1");
        // OBJECTS of two classes stay so when an argument is made less.
        g = shrunk("class a { member e() { } member m(p in 5 .. 9) { } } class b { int x; kept x < 3; member m(p in 0 .. 90) { x = p; } }", "m1 m0 1.1(9) 0.0(80)", 2, 5, "m1 0.0(5,0,0)");
        check.is("a CALL within its range", g.call(0, 0, 90, 0, 0), 3);
        check.is("none of the other class", g.call(0, 1, 5, 0, 0), -2);
        check.is("none on another OBJECT", g.call(1, 0, 0, 0, 0), -2);
    }

    private static void shrinkFirst() {
        check.sentence("17: for each argument k: it is FIRST (0, or the low end, if 0 is out of range)");
        int[][] ranges = {{-9, 9, 0}, {0, 9, 0}, {-9, 0, 0}, {1, 9, 1}, {-9, -1, -9}, {2, 9, 2}, {-1, 1, 0}, {-9, -2, -9}};
        for (int[] range : ranges) {
            String param = " in " + range[0] + " .. " + range[1];
            String text = "class a { int x; kept x == 0; member m(p" + param + ", q" + param + ", r" + param + ") { x = 1; } }";
            int first = range[2];
            for (int number = range[0]; number <= range[1]; number++) {
                int taken = number == first ? 0 : 1;
                String least = "m0 0.0(" + first + "," + first + "," + first + ")";
                shrunk(text, "m0 0.0(" + number + "," + first + "," + first + ")", 2, taken, least);
                shrunk(text, "m0 0.0(" + first + "," + first + "," + number + ")", 2, taken, least);
                shrunk(text, "m0 0.0(" + number + "," + number + "," + number + ")", 2, 3 * taken, least);
            }
        }
        // An argument that the member doesn't have is none, though one of another text stood there.
        TrialGarden g = new TrialGarden();
        for (int turn = 0; turn < 4; turn++) {
            boolean with = turn < 2;
            Check.tell(g, "class a { int x; kept x == 0; member m(" + (with ? "p in 5 .. 6, q in 5 .. 6, r in 5 .. 6" : "") + ") { x = 1; } }");
            check.ran(g, with ? "m0 0.0(6,6,6)" : "m0 0.0", 2);
            check.is("shrink()", g.shrink(), with ? 3 : 0);
            check.same("the least", Check.row(g), with ? "m0 0.0(5,5,5)" : "m0 0.0(0,0,0)");
        }
    }

    private static void shrinkHalf() {
        check.sentence("17: then it is FIRST and half (towards 0, in 64 bits) of it less FIRST");
        // bad from a limit on: what is left when neither FIRST nor the half breaks
        int[][] cases = {{0, 9, 9, 4}, {0, 9, 8, 4}, {0, 9, 7, 4}, {0, 9, 5, 3}, {0, 9, 2, 1}, {0, 9, 1, 1}, {0, 9, 9, 5}, {2, 9, 9, 5}, {2, 9, 9, 6}, {2, 9, 8, 5}, {1, 999999999, 999999999, 500000000}, {0, 999999999, 999999999, 3}};
        for (int[] one : cases) {
            String up = "class a { int x = " + one[0] + "; kept x < " + one[3] + "; member m(p in " + one[0] + " .. " + one[1] + ") { x = p; } }";
            int[] due = halves(one[0], one[2], one[3]);
            shrunk(up, "m0 0.0(" + one[2] + ")", 2, due[0], "m0 0.0(" + due[1] + ",0,0)");
        }
        check.is("9 by 4: 4", halves(0, 9, 4)[1], 4);
        check.is("9 of 2 .. by 5: 5, by one half", halves(2, 9, 5)[0], 1);
        // below 0, towards 0
        int[][] below = {{-7, -3, 1, -3}, {-7, -4, 0, -7}, {-9, -4, 1, -4}, {-8, -4, 1, -4}, {-5, -1, 2, -1}, {-1, -1, 0, -1}, {-2, -1, 1, -1}, {-999999999, -3, 28, -3}};
        for (int[] one : below) {
            String down = "class a { int x; kept x > " + one[1] + "; member m(p in -999999999 .. 9) { x = p; } }";
            shrunk(down, "m0 0.0(" + one[0] + ")", 2, one[2], "m0 0.0(" + one[3] + ",0,0)");
        }
        // FIRST is the low end, below 0
        shrunk("class a { int x = -9; kept x < -6; member m(p in -9 .. -2) { x = p; } }", "m0 0.0(-2)", 2, 1, "m0 0.0(-6,0,0)");
        shrunk("class a { int x = -9; kept x < -5; member m(p in -9 .. -2) { x = p; } }", "m0 0.0(-2)", 2, 0, "m0 0.0(-2,0,0)");
        shrunk("class a { int x = -9; kept x < -5; member m(p in -9 .. -2) { x = p; } }", "m0 0.0(-3)", 2, 0, "m0 0.0(-3,0,0)");
        shrunk("class a { int x = -9; kept x < -7; member m(p in -9 .. -2) { x = p; } }", "m0 0.0(-3)", 2, 1, "m0 0.0(-6,0,0)");
        shrunk("class a { int x = -999999999; kept x < -999999998; member m(p in -999999999 .. -1) { x = p; } }", "m0 0.0(-1)", 2, 29, "m0 0.0(-999999998,0,0)");
    }

    /** How many halves a number that is bad from a limit on is taken down by, and where it stays. */
    private static int[] halves(int first, int number, int limit) {
        int taken = 0;
        int at = number;
        while (first + (at - first) / 2 >= limit) {
            at = first + (at - first) / 2;
            taken++;
        }
        return new int[] {taken, at};
    }

    private static void shrinkOrder() {
        check.sentence("17: in order .. each that isn't the same row: the first that breaks so is the ROW then. .. How many were taken.");
        String sum = "class a { int x; kept x < 5; member m(p in 0 .. 9) { x = x + p; } }";
        // without CALL 1; then 4 is 2, then 1: each time from the beginning
        shrunk(sum, "m0 0.0(4) 0.0(4) 0.0(4)", 2, 3, "m0 0.0(1,0,0) 0.0(4,0,0)");
        // 9 is bad alone: CALL 2 goes, and 4 would not be bad
        shrunk(sum, "m0 0.0(9) 0.0(4)", 2, 1, "m0 0.0(9,0,0)");
        shrunk(sum, "m0 0.0(5)", 2, 0, "m0 0.0(5,0,0)");
        shrunk(sum, "m0 0.0(1) 0.0(4)", 2, 0, "m0 0.0(1,0,0) 0.0(4,0,0)");
        shrunk(sum, "m0 0.0(4) 0.0(1)", 2, 0, "m0 0.0(4,0,0) 0.0(1,0,0)");
        // CALLS go ahead of arguments, the first CALL's arguments ahead of the second's, the first argument ahead of the second
        shrunk("class a { int x; kept x == 0; member m(p in 0 .. 9, q in 0 .. 9) { if p + q > 3 { x = 1; } } }", "m0 0.0(4,4)", 2, 1, "m0 0.0(0,4,0)");
        shrunk("class a { int x; kept x == 0; member m(p in 0 .. 9, q in 0 .. 9) { if p + q > 5 { x = 1; } } }", "m0 0.0(4,4)", 2, 1, "m0 0.0(2,4,0)");
        shrunk("class a { int x; kept x < 6; member m(p in 0 .. 9) { x = x + p; } }", "m0 0.0(4) 0.0(4)", 2, 1, "m0 0.0(2,0,0) 0.0(4,0,0)");
        shrunk("class a { int x; int y; kept y == 0; member m(p in 0 .. 9) { x = x + p; if x > 5 { y = 1; } } member n() { x = 6; } }", "m0 0.1 0.0(9)", 2, 1, "m0 0.0(9,0,0)");
    }

    private static void shrinkAlike() {
        check.sentence("17: as long as one of these breaks alike (with the same verdict and condition (2 of condition(): its place))");
        // another kept breaks without CALL 1: not alike
        shrunk("class a { int x; int y; kept x < 5 || y; kept x < 5; member one() { y = 1; } member two() { x = 9; } }", "m0 0.0 0.1", 2, 0, "m0 0.0(0,0,0) 0.1(0,0,0)");
        shrunk("class a { int x; int y; kept x < 5; member one() { y = 1; } member two() { x = 9; } }", "m0 0.0 0.1", 2, 1, "m0 0.1(0,0,0)");
        // another verdict: not alike
        shrunk("class a { int x; kept x == 0; member m(p in 0 .. 9) gives p < 5; { x = p; } }", "m0 0.0(9)", 1, 0, "m0 0.0(9,0,0)");
        shrunk("class a { int x; kept x == 0; member m(p in 0 .. 9) gives p < 5; { x = p; } }", "m0 0.0(4)", 2, 2, "m0 0.0(1,0,0)");
        shrunk("class a { int x; kept x == 0; member m(p in 0 .. 9) gives p < 4; { x = p; } }", "m0 0.0(9)", 1, 1, "m0 0.0(4,0,0)");
        // the same place, though of another OBJECT
        shrunk("class a { int x; kept x < 5; member m(p in 0 .. 9) { x = p; } }", "m0 m0 1.0(9) 0.0(9)", 2, 1, "m0 0.0(9,0,0)");
        // verdicts without a condition are alike by the verdict alone
        shrunk("class a { int x; int y; member m(p in 0 .. 9) pure; { if p > 4 { x = 1; } else { y = p; } } }", "m0 0.0(9)", 5, 3, "m0 0.0(1,0,0)");
        shrunk("class a { member m(p in 0 .. 9) { if p > 4 { throw w; } if p > 1 { throw v; } } }", "m0 0.0(9)", 3, 2, "m0 0.0(2,0,0)");
        shrunk("class a { member m(p in 0 .. 9) { while p > 2 { } } }", "m0 0.0(9)", 8, 1, "m0 0.0(4,0,0)");
        // 5 by IMPURE and 5 without a condition are not alike
        shrunk("class z { int x; member f() pure; { x = 1; return 1; } } class a above z { member m(p in 0 .. 9) pure; gives p < 5 || f(); { if p < 5 && p > 0 { x = p; } } }", "m1 0.1(9)", 5, 0, "m1 0.1(9,0,0)");
        // CUT is not alike
        shrunk("class a { int x; kept x < 3; member m(p in 0 .. 9) needs p > 6; { x = p; } }", "m0 0.0(9)", 2, 0, "m0 0.0(9,0,0)");
    }

    private static void shrinkTold() {
        check.sentence("17: The ROW that is told of .. is made less");
        TrialGarden g = check.garden("class a { int x; kept x <= 12; member m(p in 0 .. 9) { x = x + p; return x; } }");
        check.is("draw()", g.draw(0, 3, 100), 2);
        int tried = g.tried();
        int taken = g.shrink();
        check.is("some were taken", taken > 0 ? 1 : 0, 1);
        check.is("two CALLS are needed", g.row(), 3);
        check.is("told of", g.told(2, 5), g.cell(0, 0));
        check.is("told of", g.cell(0, 0) > 12 ? 1 : 0, 1);
        check.is("tried() stays", g.tried(), tried);
        check.is("it is least", g.shrink(), 0);
        check.is("all()", g.all(0, 4), 2);
        check.same("its ROW", Check.row(g), "m0 0.0(9,0,0) 0.0(9,0,0)");
        // 9 is 4, 4 and 9 being 13
        check.is("shrink()", g.shrink(), 1);
        check.same("its ROW", Check.row(g), "m0 0.0(4,0,0) 0.0(9,0,0)");
        check.is("run() again", g.run(), 2);
        // It is told of as it is run with the MODELS that stand then, also when none is taken.
        String text = "class a { int x = 1; member m(p in 0 .. 9) { x = p; return p; } } class b { int x = 2; member m(p in 0 .. 9) { x = 5; return 1; } } class c { int z = 4; member m(p in 0 .. 9) { z = 6; throw w; } }";
        int[] verdicts = {0, 0, 6, 6};
        long[] beside = {Long.MIN_VALUE, 0, 5, 6};
        for (int model = -1; model <= 2; model++) {
            for (int p = 0; p <= 9; p += 9) {
                g = check.garden(text);
                g.model(0, 1);
                check.ran(g, "m0 0.0(" + p + ")", 6);
                g.model(0, model);
                int less = model > 0 && p > 0 ? 1 : 0;
                check.is("shrink()", g.shrink(), less);
                check.same("the ROW", Check.row(g), "m0 0.0(" + (less > 0 ? 0 : p) + ",0,0)");
                check.is("verdict()", g.verdict(), verdicts[model + 1]);
                check.is("cell()", g.cell(0, 0), less > 0 ? 0 : p);
                check.is("beside()", g.beside(0, 0), model == 0 ? p : beside[model + 1]);
                check.same("thrown()", Check.thrown(g), model == 2 ? "w" : "");
                check.is("told()", g.told(1, 6), 1);
                check.is("shrink() again", g.shrink(), verdicts[model + 1] > 0 ? 0 : -2);
            }
        }
    }
}
