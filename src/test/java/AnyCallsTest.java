import java.util.Random;

/** No call throws or fails to end, for any arguments in any state; and the same calls give the same answers. */
public final class AnyCallsTest {
    private static final String[] PARTS = {"class", "above", "int", "kept", "member", "in", "needs", "gives", "throws", "when", "only", "pure", "let", "if", "else", "while",
        "return", "throw", "old", "result", "size", "a", "b", "x", "r", "m", "n", "0", "1", "3", "9", "999999999", "(", ")", "{", "}", "[", "]", ",", ";", ".", "..", "=", "==",
        "!=", "<", "<=", ">", ">=", "+", "-", "*", "/", "%", "&&", "||", "!", "#", "1000000000", "abcdefghijklm"};
    private static final String[] TEXTS = {
        "class a { int x = 3; int r[3]; kept x < 90; member m(p in -2 .. 9, q in 0 .. 3) needs p != 1; gives r[q] == p || old(r[q]) == r[q]; throws index; throws zero when p == 0; only r, x; "
            + "{ r[q] = 90 / p; x = x + p * p; while q { q = q - 1; } return n(); } member n() pure; { return x + size(r); } }",
        "class a { int x; member m(p in 0 .. 9) { x = x + p; if p > 5 { m(p - 1); } else { throw odd; } return x; } } class b above a { int y[8]; kept y[x % 9] == 0; member m(p in 1 .. 4) throws odd; { return above.m(p) / x; } member k() pure; { x = 2; } }",
        "class a { } class b { member m() { m(); } member n() { while 1 { } } member o(p in -999999999 .. 999999999) gives result < p; { return p * p; } }",
    };

    public static void main(String[] args) {
        for (int seed = 0; seed < 60; seed++) {
            long first = answers(seed);
            long second = answers(seed);
            if (first != second) {
                System.out.println("seed " + seed + " answered otherwise the second time");
                System.exit(1);
            }
        }
        System.out.println("no call threw");
    }

    private static int any(Random random) {
        switch (random.nextInt(8)) {
            case 0: return random.nextInt();
            case 1: return Integer.MIN_VALUE;
            case 2: return Integer.MAX_VALUE;
            case 3: return -1 - random.nextInt(3);
            default: return random.nextInt(6);
        }
    }

    private static String text(Random random) {
        String text = TEXTS[random.nextInt(TEXTS.length)];
        if (random.nextInt(3) > 0) {
            return text;
        }
        StringBuilder changed = new StringBuilder();
        for (String part : text.split(" ")) {
            int what = random.nextInt(60);
            changed.append(what == 0 ? "" : what == 1 ? PARTS[random.nextInt(PARTS.length)] : what == 2 ? part + " " + part : part).append(' ');
        }
        if (random.nextInt(4) == 0) {
            changed.setLength(0);
            for (int i = 0; i < 1500; i++) {
                changed.append(PARTS[random.nextInt(PARTS.length)]).append(' ');
            }
            changed.setLength(3990);
        }
        return changed.toString();
    }

    private static long answers(int seed) {
        Random random = new Random(seed);
        TrialGarden g = new TrialGarden();
        long sum = 0;
        for (int i = 0; i < 512; i++) {
            sum = sum * 31 + answer(g, random);
        }
        return sum;
    }

    private static long answer(TrialGarden g, Random random) {
        switch (random.nextInt(32)) {
            case 0: return Check.tell(g, text(random));
            case 1: return g.feed(random.nextInt(), random.nextInt(), any(random), any(random), any(random));
            case 2: return g.end(any(random));
            case 3: return g.classes();
            case 4: return g.fault(any(random));
            case 5: return g.about(any(random), any(random));
            case 6: return g.member(any(random), any(random), any(random));
            case 7: return g.model(any(random), any(random));
            case 8: return random.nextInt(4) == 0 ? g.clear() : 0;
            case 9: case 10: return g.make(any(random));
            case 11: case 12: case 13: return g.call(any(random), any(random), any(random), any(random), 0);
            case 14: case 15: return g.call(random.nextInt(3), random.nextInt(3), random.nextInt(4), random.nextInt(2), 0);
            case 16: case 17: return g.run();
            case 18: return g.draw(any(random), any(random), any(random));
            case 19: return g.all(any(random), any(random));
            case 20: return g.tried();
            case 21: return g.cut();
            case 22: case 23: return g.shrink();
            case 24: return g.verdict();
            case 25: return g.condition(any(random));
            case 26: return g.changed(any(random));
            case 27: return g.thrown(any(random));
            case 28: return g.row();
            case 29: return g.told(any(random), any(random));
            case 30: return g.cell(any(random), any(random)) + g.beside(any(random), any(random));
            default: return g.count(any(random));
        }
    }
}
