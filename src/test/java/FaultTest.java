/** Promises 4 and 5: each KIND of FAULT, at its PLACE (told by a ^ ahead of it), and what is none. */
public final class FaultTest {
    private static final Check check = new Check();

    public static void main(String[] args) {
        syntax();
        names();
        ranges();
        rooms();
        tokenRoom();
        namesAheadOfRoom();
        sorts();
        arguments();
        heights();
        order();
        check.end();
    }

    private static void fault(int kind, String marked) {
        check.fault(kind, marked);
    }

    private static void fine(String text) {
        check.fine(text);
    }

    private static String times(int n, String part) {
        return Texts.times(n, part);
    }

    private static String balanced(int n, String part) {
        return n == 1 ? part : "(" + balanced(n / 2, part) + " + " + balanced(n / 2, part) + ")";
    }

    private static void inMember(int kind, String st) {
        fault(kind, Texts.inMember(st));
    }

    private static void syntax() {
        fault(1, "^");
        fault(1, "^x");
        fault(1, "class ^{ }");
        fault(1, "class ^class { }");
        fault(1, "class a ^x { }");
        fault(1, "class a above ^int { }");
        fault(1, "class a { } ^;");
        fine("class a { }");
        fault(1, "class a { kept 1; ^int x; }");
        fault(1, "class a { member m() { } ^kept 1; }");
        fault(1, "class a { int ^5; }");
        fault(1, "class a { int ^int; }");
        fault(1, "class a { member ^5() { } }");
        fault(1, "class a { member ^old() { } }");
        fault(1, "class a { member m^; }");
        fault(1, "class a { int x = ^+5; }");
        fault(1, "class a { int x = -^-5; }");
        fault(1, "class a { int r[^-1]; }");
        fault(1, "class a { int r[2^; }");
        fault(1, "class a { member m(^,) { } }");
        fault(1, "class a { member m(p in 0 .. 1,^) { } }");
        fault(1, "class a { member m(p ^0 .. 1) { } }");
        fault(1, "class a { member m(p in 0 ^. 1) { } }");
        fault(1, "class a { member m() throws ^when; { } }");
        fault(1, "class a { member m() pure ^{ } }");
        fault(1, "class a { member m() ^; }");
        fault(1, "class a { member m() only ^; { } }");
        fault(1, "class a { int x; member m() only x,^; { } }");
        fault(1, "class a { int x; kept ^old(x); }");
        fault(1, "class a { int x; member m() needs ^old(x); { } }");
        fault(1, "class a { int x; member m() throws b when ^old(x); { } }");
        fault(1, "class a { int x; member m() needs ^result; { } }");
        fault(1, "class a { member m() { return ^result; } }");
        fault(1, "class a { member m() gives result; { return ^result; } }");
        fault(1, "class a { int x; member m() gives old(x); needs ^old(x); { } }");
        fault(1, "class a { int x; member m() gives old(x); { } member n() throws b when ^result; { } }");
        fault(1, "class a { int x; member m() gives old(^5); { } }");
        fault(1, "class a { int x; member m() gives old(x ^+ 1); { } }");
        fault(1, "class a { int r[2]; member m() gives old(r[0] ^+ 1); { } }");
        fault(1, "class a { int r[2]; member m() gives size(r^[0]); { } }");
        inMember(1, "let ^5 = 1;");
        inMember(1, "let y ^;");
        inMember(1, "x ^+ 1;");
        inMember(1, "x ^== 1;");
        inMember(1, "x = ^;");
        inMember(1, "x = 1 ^2;");
        inMember(1, "r[1 ^= 2;");
        inMember(1, "r[(1^] = 2;");
        inMember(1, "m() ^+ 1;");
        inMember(1, "m() ^}");
        inMember(1, "^else { }");
        inMember(1, "if 1 ^x = 1;");
        inMember(1, "if 1 { } else ^if 1 { }");
        inMember(1, "if 1 { } else { } ^else { }");
        inMember(1, "while 1 { } ^else { }");
        inMember(1, "x = above.^5(1);");
        inMember(1, "throw ^5;");
        inMember(1, "throw ^if;");
        inMember(1, "return ^;");
        inMember(1, "above ^m();");
        inMember(1, "above.^5();");
        inMember(1, "above.m^;");
        inMember(1, "x = above.m ^+ 1;");
        inMember(1, "x = 1 + ^* 2;");
        inMember(1, "x = (1^, 2);");
        inMember(1, "x = p(1 ^; 2);");
        inMember(1, "x = ^kept;");
        inMember(1, "x = 1 ^! 2;");
        inMember(1, "^{ }");
        inMember(1, "^;");
        inMember(0, "if x { x = 1; } else { while z { z = z - 1; } } return - ! - 1 * (x + z) % 2;");
    }

    private static void names() {
        fault(2, "class a { } class b { } class ^a { }");
        fault(2, "class a above ^a { }");
        fault(2, "class a above ^b { } class b { }");
        fault(2, "class a { int x; int y; int ^x[2]; }");
        fault(2, "class a { int x; } class b above a { int ^x; }");
        fine("class a { int x; } class b { int x; }");
        fault(2, "class a { member m() { } member ^m(p in 0 .. 1) { } }");
        fine("class a { int m; member m() { } member a() { } }");
        fault(2, "class a { int x; member m(^x in 0 .. 1) { } }");
        fault(2, "class a { member m(p in 0 .. 1, ^p in 0 .. 1) { } }");
        fine("class a { member m(p in 0 .. 1) { } member n(p in 0 .. 1) { } }");
        fault(2, "class a { kept ^y; }");
        fault(2, "class a { member m(p in 0 .. 1) { } member n() { return ^p; } }");
        fault(2, "class a { kept ^m(); member m() pure; { } }");
        fault(2, "class a { member m() { ^n(); } member n() { } }");
        fine("class a { member n() { } member m() { n(); m(); } }");
        fault(2, "class a { int x; member m() only ^y; { } }");
        fault(2, "class a { int x; member m(p in 0 .. 1) only x, ^p; { } }");
        fault(2, "class a { member m() gives old(^y); { } }");
        fault(2, "class a { member m() gives size(^y); { } }");
        inMember(2, "let ^x = 1;");
        inMember(2, "let ^z = 1;");
        inMember(2, "let y = 1; if 1 { let ^y = 1; }");
        inMember(2, "if 1 { let y = 1; } else { ^y = 1; }");
        inMember(2, "while 1 { let y = 1; } return ^y;");
        inMember(2, "^y = 1;");
        inMember(2, "^m = 1;");
        inMember(2, "return ^m;");
        inMember(2, "^x();");
        inMember(2, "return ^x();");
        inMember(2, "above.^k();");
        inMember(2, "return above.^k(1);");
        inMember(0, "let y = y + 1; y = 2; z = y;");
        inMember(0, "if 1 { let y = 1; } if 1 { let y = 2; }");
    }

    private static void ranges() {
        fault(3, "class a { int r[^0]; }");
        fault(3, "class a { int r[^9]; }");
        fault(3, "class a { int r[^999999999]; }");
        fine("class a { int r[1]; int s[8]; int t[08]; }");
        fault(3, "class a { member m(p in 1 .. ^0) { } }");
        fault(3, "class a { member m(p in 1 .. -^1) { } }");
        fault(3, "class a { member m(p in -1 .. -^2) { } }");
        fine("class a { member m(p in 0 .. 0, q in -2 .. -1, r in -999999999 .. 999999999) { } }");
    }

    private static void rooms() {
        StringBuilder eight = new StringBuilder();
        for (int i = 0; i < 8; i++) {
            eight.append("class c").append(i).append(" { } ");
        }
        fine(eight.toString());
        fault(4, eight + "class ^d { }");
        fault(2, eight + "class ^c3 { }");
        String ten = "";
        for (int i = 0; i < 10; i++) {
            ten += "int f" + i + "; ";
        }
        fine("class a { " + ten + "}");
        fault(4, "class a { " + ten + "int ^g; }");
        fault(4, "class a { " + ten + "} class b above a { int ^g; }");
        fault(2, "class a { " + ten + "int ^f3; }");
        String cells = "class a { int r[8]; int s[8]; int t[7]; ";
        fine(cells + "int u; }");
        fine(cells + "int u[1]; }");
        fault(4, cells + "int u[^2]; }");
        fault(4, cells + "int u; int ^v; }");
        fault(4, cells + "int u; int v[^1]; }");
        fault(3, cells + "int u[^9]; }");
        fault(4, cells + "} class b above a { int u[^2]; }");
        fault(4, cells + "int u; int ^v ; }");
        fault(4, cells + "int u; int ^v }");
        fine("class a { " + times(8, "kept 1; ") + "}");
        fault(4, "class a { " + times(8, "kept 1; ") + "^kept 1; }");
        fine("class a { " + times(8, "kept 1; ") + "} class b above a { kept 1; }");
        String twelve = "";
        for (int i = 0; i < 12; i++) {
            twelve += "member m" + i + "() { } ";
        }
        fine("class a { " + twelve + "}");
        fault(4, "class a { " + twelve + "member ^n() { } }");
        fault(4, "class a { " + twelve + "} class b above a { member m3() { } member ^n() { } }");
        fine("class a { " + twelve + "} class b above a { " + twelve + "}");
        fault(4, "class a { member m(p in 0 .. 1, q in 0 .. 1, r in 0 .. 1, ^s in 0 .. 1) { } }");
        fault(2, "class a { member m(p in 0 .. 1, q in 0 .. 1, r in 0 .. 1, ^p in 0 .. 1) { } }");
        fine("class a { member m() " + times(7, "needs 1; ") + "pure; { } }");
        fault(4, "class a { member m() " + times(8, "throws b; ") + "^gives 1; { } }");
        fault(4, "class a { member m() " + times(7, "throws b; ") + "pure; ^pure; { } }");
        inMember(0, times(7, "if 1 { ") + times(7, "} "));
        inMember(4, times(7, "if 1 { ") + "while 1 ^{ } " + times(7, "} "));
        inMember(4, times(7, "if 1 { } else { ") + "if 1 ^{ } " + times(7, "} "));
        inMember(0, times(12, "if 1 { } "));
        inMember(0, times(40, "m(); "));
        inMember(4, times(40, "m(); ") + "^m();");
        inMember(4, times(38, "m(); ") + "if 1 { m(); ^return 1; }");
        inMember(1, times(40, "m(); ") + "^else");
        String locals = "";
        for (int i = 0; i < 8; i++) {
            locals += "let l" + i + " = 1; ";
        }
        inMember(0, locals);
        inMember(4, locals + "let ^y = 1;");
        inMember(2, locals + "let ^l0 = 1;");
        inMember(0, "if 1 { " + locals + "} " + locals);
        inMember(7, "return " + times(28, "-") + "^" + times(12, "-") + "1;");
        inMember(4, "return " + times(40, "-") + "^-1;");
        inMember(4, "return " + times(40, "!") + "^(1);");
        inMember(0, "return " + times(40, "(") + "1" + times(40, ")") + ";");
        inMember(4, "return " + times(40, "(") + "^(1" + times(41, ")") + ";");
        inMember(4, "return " + times(40, "(") + "^-1" + times(40, ")") + ";");
        inMember(4, "return " + times(40, "(") + "r^[1]" + times(40, ")") + ";");
        inMember(4, "return " + times(40, "(") + "m^()" + times(40, ")") + ";");
        inMember(4, "return " + times(40, "(") + "size^(r)" + times(40, ")") + ";");
        inMember(4, "return " + times(40, "r[") + "r^[1]" + times(40, "]") + ";");
        inMember(4, "return " + times(40, "p(1, ") + "p^(1, 1)" + times(40, ")") + ";");
        inMember(4, "return " + times(40, "above.p(1, ") + "^(1)" + times(40, ")") + ";");
        String inGives = "class a { int x; int r[3]; member m() gives ";
        fault(4, inGives + times(40, "(") + "old^(x)" + times(40, ")") + "; { } }");
        fault(4, inGives + times(39, "(") + "old(r^[1])" + times(39, ")") + "; { } }");
        fault(4, inGives + times(20, "old(r[") + "^(1)" + times(20, "])") + "; { } }");
        fine(inGives + times(38, "(") + "old(r[1])" + times(38, ")") + "; { } }");
        inMember(0, "return " + times(39, "(") + "m()" + times(39, ")") + " + " + times(39, "(") + "r[1]" + times(39, ")") + ";");
        inMember(0, "p(1, " + times(40, "(") + "1" + times(40, ")") + ");");
        // What is closed is open no more: 64 of each, in an ex of HEIGHT 9 at most.
        for (String closed : new String[] {"r[0]", "m()", "p(1, 1)", "-1", "!x", "(1)", "size(r)", "above.p(1, 1)", "r[-1]", "p(r[0], -m())"}) {
            inMember(0, "return " + balanced(64, closed) + ";");
        }
        fine("class a { int x; int r[3]; member m() gives " + balanced(64, "old(r[0])") + "; gives " + balanced(64, "old(x)") + "; { } }");
        inMember(0, "r[" + times(40, "(") + "1" + times(40, ")") + "] = 1;");
    }

    private static String ofTokens(int n, int tailTokens, String tail) {
        return Texts.ofTokens(n, tailTokens, tail);
    }

    private static void tokenRoom() {
        fine(ofTokens(1199, 2, "} }"));
        fine(ofTokens(1200, 2, "} }"));
        fault(4, ofTokens(1201, 2, "} ^}"));
        fault(4, ofTokens(1202, 2, "^} }"));
        fault(1, ofTokens(1201, 3, "} } ^x"));
        fault(4, ofTokens(1201, 3, "} } ^class"));
        fault(1, ofTokens(1201, 3, "} } ^#"));
        fault(2, ofTokens(1201, 5, "return ^yy; } }"));
        fault(2, ofTokens(1203, 5, "return ^yy; } }"));
        fault(4, ofTokens(1204, 7, "let y = ^1; } }"));
        fault(2, ofTokens(1206, 7, "let ^x = 1; } }"));
        fault(4, ofTokens(1206, 7, "let ^y = 1; } }"));
    }

    /** Of one TOKEN the least KIND: the 41st st or the 1201st TOKEN may be a NAME that isn't there. */
    private static void namesAheadOfRoom() {
        String forty = times(40, "m(); ");
        inMember(2, forty + "^yy = 1;");
        inMember(2, forty + "^yy();");
        inMember(2, forty + "^yy #");
        inMember(2, forty + "^m = 1;");
        inMember(2, forty + "^x(1);");
        inMember(2, times(39, "m(); ") + "if 1 { ^yy[0] = 1; }");
        inMember(2, times(38, "m(); ") + "if 1 { let y = 1; } ^y = 1;");
        inMember(4, times(39, "m(); ") + "let y = 1; ^y = 1;");
        inMember(4, forty + "^x = 1;");
        inMember(4, forty + "^z = 1;");
        inMember(4, forty + "^k(1);");
        inMember(4, forty + "^x #");
        inMember(4, forty + "^r = 1;");
        inMember(4, forty + "^x[0] = 1;");
        inMember(4, forty + "^above.yy();");
        inMember(4, forty + "^let x = 1;");
        inMember(4, forty + "^throw w;");
        fault(4, "class a { member m() { } member n() { " + forty + "^above.m(); } }");
        fault(2, "class a { member m() { " + times(40, "m(); ") + "^r");
        fault(2, "class a { member m() { " + times(40, "m(); ") + "^n(); } member n() { } }");

        lastToken(2, 1, "return ", "^yy", "; } }");
        lastToken(2, 1, "return ", "^yy", "");
        lastToken(2, 1, "return ", "^yy", "#");
        lastToken(2, 1, "return ", "^yy", " \n (");
        lastToken(2, 1, "return ", "^z", "; } }");
        lastToken(4, 1, "return ", "^z", "(); } }");
        lastToken(4, 1, "return ", "^z", "\n  (); } }");
        lastToken(4, 1, "return ", "^z", "(1); } }");
        lastToken(2, 1, "return ", "^x", "(); } }");
        lastToken(4, 1, "return ", "^x", "; } }");
        lastToken(4, 1, "return ", "^x", "[0]; } }");
        lastToken(4, 1, "return ", "^r", "; } }");
        lastToken(4, 1, "return ", "^r", "[0]; } }");
        lastToken(2, 0, "", "^yy", " = 1; } }");
        lastToken(2, 0, "", "^yy", "(); } }");
        lastToken(2, 0, "", "^x", "(); } }");
        lastToken(2, 0, "", "^z", " = 1; } }");
        lastToken(4, 0, "", "^z", "(); } }");
        lastToken(4, 0, "", "^x", " = 1; } }");
        lastToken(4, 0, "", "^r", " = 1; } }");
        lastToken(4, 0, "", "^above", ".z(); } }");
        lastToken(4, 1, "return ", "^(", "yy); } }");
        lastToken(4, 2, "return -", "^-", "yy; } }");
        lastToken(2, 3, "return size(", "^yy", "); } }");
        lastToken(4, 3, "return size(", "^x", "); } }");
        lastToken(2, 8, "} member h() gives old(", "^yy", "); { } }");
        lastToken(2, 8, "} member h() gives old(", "^z", "(); { } }");
        lastToken(4, 8, "} member h() gives old(", "^r", "); { } }");
        lastToken(4, 8, "} member h() gives old(", "^x", "); { } }");
        lastToken(2, 6, "} member h() only ", "^yy", "; { } }");
        lastToken(2, 2, "} member ", "^z", "() { } }");
        lastToken(4, 2, "} member ", "^h", "() { } }");
        lastToken(4, 6, "} member h() needs ", "^z", "(); { } }");
        lastToken(2, 6, "} member h() needs ", "^h", "; { } }");
        lastToken(4, 6, "} member h() needs ", "^h", "(); { } }");
        lastToken(1, 6, "} member h() needs ", "^old", "(yy); { } }");
        lastToken(3, 8, "} member h(p in 1 .. ", "^0", ") { } }");
        // With one TOKEN less ahead, the 1201st is the one behind the NAME: what waits for it is told.
        fault(5, ofTokens(1200, 2, "return ^r") + " = 1; } }");
        fault(4, ofTokens(1200, 2, "return x") + "^; } }");
        fault(2, ofTokens(1200, 2, "return ^yy") + "; } }");
    }

    /** A text whose 1201st TOKEN is the one that is told apart, behind so many TOKENS in a member. */
    private static void lastToken(int kind, int aheadTokens, String ahead, String last, String behind) {
        fault(kind, ofTokens(1201, aheadTokens + 1, ahead + last) + behind);
    }

    private static void sorts() {
        fault(5, "class a { int x; kept ^x[0]; }");
        fault(5, "class a { int r[1]; kept ^r; }");
        fault(5, "class a { int x; kept size(^x); }");
        fault(5, "class a { member m(p in 0 .. 1) gives size(^p); { } }");
        fault(5, "class a { member m(p in 0 .. 1) gives old(^p); { } }");
        fault(5, "class a { int r[2]; member m() gives old(^r); { } }");
        fault(5, "class a { int x; member m() gives old(^x[0]); { } }");
        inMember(5, "^x[0] = 1;");
        inMember(5, "^r = 1;");
        inMember(5, "^z[0] = 1;");
        inMember(5, "return ^z[0];");
        inMember(5, "let y = 1; return ^y[0];");
        fault(5, "class a { member m() { } member n() needs ^m(); { } }");
        fault(5, "class a { member m() { } member n() gives 1 + ^m(); { } }");
        fault(5, "class a { member m() { } member n() throws b when ^m(); { } }");
        fault(5, "class a { member m() { } } class b above a { kept ^m(); }");
        fault(5, "class a { member m() { } } class b above a { member m() pure; { } member n() needs above.^m(); { } }");
        fine("class a { member m() { } } class b above a { member m() pure; { } member n() needs m(); { } }");
        fault(5, "class a { member m() needs ^m(); pure; { } }");
        fine("class a { member m() pure; needs m(); { } }");
        fault(5, "class a { member m(p in 0 .. 1) { } } class b above a { member m(^) { } }");
        fault(5, "class a { member m() { } } class b above a { member m(p in 0 .. 1^) { } }");
        fine("class a { member m(p in 0 .. 1) { } } class b above a { member m(q in 5 .. 9) { } }");
        fault(5, "class a { member m() pure; { } } class b above a { member m() needs 1; ^{ } }");
        fine("class a { member m() pure; { } } class b above a { member m() needs 1; pure; { } }");
        fault(5, "class a { member m() { ^above.m(); } }");
        fault(5, "class a { member m() { return 1 + ^above.m(); } }");
        fault(5, "class a { kept ^above.m(); }");
        fault(5, "class a { int x; member m() pure; ^pure; { } }");
        fault(5, "class a { int x; member m() only x; ^only x; { } }");
        fault(5, "class a { int x; member m() only x; needs 1; ^pure; { } }");
        fault(5, "class a { int x; member m() pure; ^only x; { } }");
    }

    private static void arguments() {
        inMember(6, "p(1^);");
        inMember(6, "p(^);");
        inMember(6, "p(1, 2^, 3);");
        inMember(6, "m^(1);");
        inMember(6, "k(1^, 1);");
        inMember(6, "above.p(1^);");
        inMember(6, "above.m^(1);");
        inMember(6, "return p(1^);");
        inMember(6, "return p(^);");
        inMember(6, "return p(1, 2^, 3);");
        inMember(6, "return m^(1);");
        inMember(6, "return m^(;");
        inMember(6, "return p(1, p(1^));");
        inMember(6, "return above.p(1, 1^, yy);");
        inMember(0, "p(1, p(2, m())); k(z); return above.p(k(1), 1);");
    }

    private static void heights() {
        inMember(0, "return 1" + times(11, " + 1") + ";");
        inMember(7, "return 1" + times(11, " + 1") + " ^+ 1;");
        inMember(7, "return 1" + times(11, " + 1") + " ^- 1 - 1;");
        inMember(0, "return 1 + 1 * 1 == 1 + 1 * 1 && 1 || 1;");
        inMember(0, "return " + times(11, "-") + "1;");
        inMember(7, "return ^" + times(12, "-") + "1;");
        inMember(7, "return " + times(3, "!") + "^" + times(12, "!") + "x;");
        inMember(0, "return " + times(11, "r[") + "1" + times(11, "]") + ";");
        inMember(7, "return ^" + times(12, "r[") + "1" + times(12, "]") + ";");
        inMember(7, "return r[^" + times(12, "r[") + "1" + times(12, "]") + "];");
        inMember(0, "return " + times(11, "p(1, ") + "m()" + times(11, ")") + ";");
        inMember(7, "return ^" + times(12, "p(1, ") + "m()" + times(12, ")") + ";");
        inMember(7, "return above.^p(1, " + times(11, "p(1, ") + "m()" + times(12, ")") + ";");
        inMember(0, "r[" + times(11, "-") + "1] = " + times(11, "-") + "1;");
        inMember(0, "p(1, " + times(11, "-") + "1);");
        inMember(7, "return 1 ^+ (" + times(11, "-") + "1);");
        inMember(0, "return 1 + (" + times(10, "-") + "1);");
        inMember(7, "return 1 ^&& " + times(11, "-") + "1;");
        String gives = "class a { int x; int r[2]; member m() gives ";
        fine(gives + times(10, "-") + "old(x); { } }");
        fault(7, gives + "^" + times(11, "-") + "old(x); { } }");
        fine(gives + "old(r[" + times(9, "-") + "1]); { } }");
        fault(7, gives + "^old(r[" + times(10, "-") + "1]); { } }");
        fault(7, gives + "old(^r[" + times(11, "-") + "1]); { } }");
        fine(gives + times(11, "-") + "size(r); { } }");
        fine(gives + times(11, "-") + "result; { } }");
    }

    /** The first FAULT that is come to; what waits for the next TOKEN comes ahead of what is wrong with that. */
    private static void order() {
        inMember(2, "^y #");
        inMember(2, "return ^y y;");
        inMember(5, "return ^r #;");
        inMember(5, "return ^x [ # ];");
        inMember(6, "return m^( #;");
        inMember(7, "return ^" + times(12, "-") + "1 #");
        inMember(7, "return 1" + times(11, " + 1") + " ^+ 1 }");
        inMember(1, "return 1" + times(11, " + 1") + " + ^;");
        fault(2, "class a { kept ^y");
        fault(4, "class a { int r[8]; int s[8]; int t[8]; int ^u #");
        fault(4, "class a { int r[8]; int s[8]; int t[8]; int u[^1 #");
        fault(1, "class a { int r[8]; int s[8]; int t[8]; int u[^#");
        fault(5, "class a { member m() { } } class b above a { member m(p in 0 .. 1^) #");
        fault(2, "class a { member m() { return ^y(#; } }");
        fault(5, "class a { member m() pure; ^pure pure");
        fault(5, "class a { kept ^above #");
    }
}
