/** Texts that several tests are made of. */
final class Texts {
    private Texts() {
    }

    static String times(int n, String part) {
        return part.repeat(Math.max(n, 0));
    }

    /** n parts, each with its number, from 0 on, between what stands ahead and behind. */
    static String numbered(int n, String ahead, String behind) {
        StringBuilder text = new StringBuilder();
        for (int i = 0; i < n; i++) {
            text.append(ahead).append(i).append(behind);
        }
        return text.toString();
    }

    /** n parts with something between them. */
    static String joined(int n, String part, String between) {
        return times(n - 1, part + between) + times(Math.min(n, 1), part);
    }

    /** A class b with x, r[3], m(), p(q, s) of a class above, and k(z) of its own with these st. */
    static String inMember(String st) {
        return "class a { int x; int r[3]; member m() { } member p(q in 0 .. 1, s in 0 .. 1) pure; { } } class b above a { "
            + "member k(z in -1 .. 1) { " + st + " } }";
    }

    /** The first n TOKENS of a text, over a thousand: the last are those of the tail, which begins within a member. */
    static String ofTokens(int n, int tailTokens, String tail) {
        StringBuilder text = new StringBuilder("class a { int x; int r[2]; member z() { } ");
        int left = n - 18 - tailTokens;
        for (int member = 0; left > 5 + 240 + 20; member++) {
            text.append("member f").append(member).append("() { ").append(times(30, "x = 1 + 1 + 1; ")).append("} ");
            left -= 6 + 240;
        }
        text.append("member g() { ");
        left -= 5;
        while (left > 16) {
            text.append("x = 1 + 1 + 1 + 1 + 1; ");
            left -= 12;
        }
        while (left > 0) {
            int st = left >= 8 || left == 4 ? 4 : left == 5 ? 5 : 3;
            text.append(st == 4 ? "x = 1; " : st == 5 ? "let l = 1; " : "throw w; ");
            left -= st;
        }
        return text + tail;
    }
}
