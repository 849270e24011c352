/**
 * Texts grown TOKEN by TOKEN: behind each beginning every row of so many TOKENS is tried that goes on as long as
 * its FAULT is at its last TOKEN or its end; all are read as the naive reading of the document does.
 */
public final class GrownTest {
    private static final Check check = new Check();
    private static TrialGarden garden = new TrialGarden();
    private static int calls = 0;
    private static final String BELOW = "class a { int x; int r[3]; member p() pure; { } member q(i in 0 .. 1) pure; { return i; } "
        + "member n(j in 0 .. 1, k in 0 .. 1) { } } class b above a { int y;";
    private static final String ALONE = "class a { int x; int r[2]; member p() pure; { } member q(i in 0 .. 1) pure; { }";
    private static final String EX = "x r p q n z zz ( ) [ ] , ; + - ! 1 old result size above . && {";
    private static final String HIGH = "x r p q ( ) [ ] 1 old size result - ! + ;";

    public static void main(String[] args) {
        int more = args.length > 0 ? Integer.parseInt(args[0]) : 0;
        heads(more);
        conditions(more);
        statements(more);
        atLimits(more);
        check.end();
    }

    private static void heads(int more) {
        check.sentence("text = class {class}. class = .. field = .. member = .. param = .. mark = ..");
        grow("", "class a b above { } int member x ; @", 6 + more);
        grow("class a {", "int x y [ ] 0 3 9 = - ; kept member m ( ) { } class", 5 + more);
        grow(BELOW + " member", "x p q n k z in 0 .. 1 - ( ) , ; { } needs pure only throws when gives", 4 + more);
        grow(BELOW + " member p(", "x y z p in 0 1 .. - ( ) , { pure ; }", 5 + more);
        grow(BELOW + " member k()", "x y r z p needs gives only pure throws when w , ; { } 1 member", 4 + more);
    }

    private static void conditions(int more) {
        check.sentence("ex by || , && , == .. in kept, needs, gives");
        grow(BELOW + " kept", EX + " kept member }", 4 + more);
        grow(BELOW + " member k(z in 0 .. 1) needs", EX + " pure", 4 + more);
        grow(BELOW + " member k(z in 0 .. 1) gives", EX + " only", 4 + more);
    }

    private static void statements(int more) {
        check.sentence("st = let .. place .. if .. while .. return .. throw .. call");
        grow(BELOW + " member k(z in 0 .. 1) {", "x r p q n k z zz w ( ) [ ] ; = 1 - above . { } let if else while return throw ,", 4 + more);
        grow(BELOW + " member k(z in 0 .. 1) { return", EX + " } k", 4 + more);
    }

    private static void atLimits(int more) {
        check.sentence("4 ROOM, 7 HEIGHT: what comes next to a limit");
        grow("class a { int r[8]; int s[8]; int t[7];", "int x r [ ] 1 2 9 = - ; kept member m ( ) { }", 5 + more);
        grow("class a { int x; member k() { " + Texts.times(6, "if 1 { "), "if 1 { } else x = ; while let z return", 5 + more);
        grow(ALONE + " member k() gives " + Texts.times(38, "- "), HIGH, 4 + more);
        grow(ALONE + " member k() gives " + Texts.times(10, "- "), HIGH, 4 + more);
        grow(ALONE + " member k() { " + Texts.times(39, "x = 1; "), "x r p q ( ) [ ] 1 = zz ; } return throw let above", 5 + more);
        grow(ALONE + " member k() { " + Texts.numbered(7, "let l", " = 1; "), "let if 1 { } h l1 x r p = ;", 5 + more);
    }

    private static void grow(String beginning, String tokens, int depth) {
        for (String token : tokens.split(" ")) {
            String text = beginning + " " + token;
            boolean goesOn = compare(text) > beginning.length();
            if (goesOn && depth > 1) {
                grow(text, tokens, depth - 1);
            }
        }
    }

    /** A garden answers 512 calls; behind them another one goes on. */
    private static void renewGarden(int moreCalls) {
        calls += moreCalls;
        if (calls > 512) {
            garden = new TrialGarden();
            calls = moreCalls;
        }
    }

    /** The PLACE of the text's FAULT; its length without one. */
    private static int compare(String text) {
        renewGarden(text.length() / 20 + 6);
        NaiveGarden naive = new NaiveGarden();
        naive.tape = text;
        int due = naive.classes();
        check.is("classes() of " + text, Check.tell(garden, text), due);
        check.is("KIND of " + text, garden.fault(0), naive.faultKind);
        check.is("PLACE of " + text, garden.fault(1), naive.faultPlace);
        return garden.fault(0) == 0 ? text.length() : garden.fault(1);
    }
}
