import java.lang.management.ManagementFactory;

/** All calls of one run live in one room: behind the constructor next to nothing is made, by the dearest calls either. */
public final class RoomTest {
    private static final Check check = new Check();
    private static final int OBJECT_BYTES = 400000;
    private static final int CALL_BYTES = 20000;

    public static void main(String[] args) {
        made("a new object", new TrialGarden(), OBJECT_BYTES);
        dearestCalls();
        check.end();
    }

    private static long bytesMade() {
        return ((com.sun.management.ThreadMXBean) ManagementFactory.getThreadMXBean()).getThreadAllocatedBytes(Thread.currentThread().getId());
    }

    private static void made(String what, TrialGarden ahead, int most) {
        long before = bytesMade();
        TrialGarden g = new TrialGarden();
        long bytes = bytesMade() - before;
        check.is(what + " is not the one ahead", g == ahead ? 1 : 0, 0);
        check.is(what + " of " + bytes + " bytes", bytes <= most ? 1 : 0, 1);
    }

    private static void dearestCalls() {
        TrialGarden g = check.garden("class a { int x; kept x < 12; member m(p in -9 .. 9, q in -9 .. 9) throws w; { x = x + p; if q > 8 { throw w; } return x; } member n() { let i = 0; while i < 140 { i = i + 1; } } }");
        g.model(0, 0);
        int[] words = new int[1000];
        String text = " ".repeat(3000) + "class a { member m(p in 0 .. 1) needs p; { return m(p - 1); } } #" + " ".repeat(1000);
        for (int i = 0; i < words.length; i++) {
            words[i] = Check.four(text, 4 * i);
        }
        long before = bytesMade();
        long sum = 0;
        for (int turn = 0; turn < 2; turn++) {
            for (int i = 0; i < 25; i++) {
                sum += g.draw(0, i, 100) + g.shrink() + g.all(0, 4) + g.run() + g.cell(0, 0) + g.told(1, 5) + g.clear() + g.make(0);
            }
            for (int i = 0; i + 5 <= words.length; i += 5) {
                sum += g.feed(words[i], words[i + 1], words[i + 2], words[i + 3], words[i + 4]);
            }
            sum += g.classes();
        }
        long bytes = bytesMade() - before;
        check.is("bytes made by these calls: " + bytes, bytes <= CALL_BYTES ? 1 : 0, 1);
        check.is("they did something", sum != 0 ? 1 : 0, 1);
        check.is("a FAULT at the #", g.fault(1), text.indexOf('#'));
    }
}
