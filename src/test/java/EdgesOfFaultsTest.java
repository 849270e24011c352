/** Terms I, FAULTS: for each limit of a text the last that is taken and the first that is refused, and the order of FAULTS. */
public final class EdgesOfFaultsTest {
    private static final Check check = new Check();

    public static void main(String[] args) {
        places();
        firstComeTo();
        leastKind();
        leastKindOfLastToken();
        syntax();
        nameNotThere();
        nameThereAlready();
        nextTokenSeen();
        rowRange();
        paramRange();
        tokenRoom();
        classRoom();
        fieldRoom();
        rowCellRoom();
        plainCellRoom();
        keptRoom();
        memberRoom();
        paramRoom();
        markRoom();
        blockRoom();
        openRoom();
        stRoom();
        localRoom();
        partRoom();
        rowSort();
        sizeSort();
        callSort();
        oldSort();
        overrideSort();
        pureSort();
        aboveSort();
        narrowSort();
        arguments();
        argumentsOfNone();
        operatorHeight();
        placeHeight();
        oldHeight();
        heightSeen();
        check.end();
    }

    private static void inMember(int kind, String st) {
        check.fault(kind, Texts.inMember(st));
    }

    private static String times(int n, String part) {
        return Texts.times(n, part);
    }

    private static void places() {
        check.sentence("KIND and PLACE (a TOKEN's first byte; the text's length at its end)");
        check.fault(1, "^x");
        check.fault(1, " \n^x");
        check.fault(1, "class a { kept 1 && ^; }");
        check.fault(1, "class a { kept 1 != ^!= 1; }");
        check.fault(1, "class a {^");
        check.fault(1, "class a { ^");
        check.fault(1, "class a { \n \n^");
        check.fault(1, "^");
        check.fault(1, "  ^");
    }

    /** A member each with a FAULT of KIND 1 to 7, its PLACE told by a ^. */
    private static final String[] EACH = {
        "member k1() { x ^; } ",
        "member k2() { ^yy = 1; } ",
        "member k3(p in 1 .. ^0) { } ",
        "member k4() { return " + "(".repeat(40) + "^(1" + ")".repeat(41) + "; } ",
        "member k5() { ^r = 1; } ",
        "member k6() { m^(1); } ",
        "member k7() { return ^" + "-".repeat(12) + "1; } ",
    };

    private static void firstComeTo() {
        check.sentence("FAULTS: .. the first come to as TOKENS are read one by one");
        String head = "class a { int x; int r[3]; member m() { } ";
        for (int i = 0; i < 7; i++) {
            check.fault(i + 1, head + EACH[i] + "}");
            for (int k = 0; k < 7; k++) {
                check.fault(i + 1, head + EACH[i] + EACH[(i + k) % 7].replace("^", "").replace("k", "j") + "}");
            }
            check.fault(i + 1, head + EACH[i] + "} #");
            check.fault(1, "^# " + head + EACH[i].replace("^", "") + "}");
        }
    }

    private static void leastKind() {
        check.sentence("of one TOKEN the least KIND");
        // 2 ahead of 4
        check.fault(2, Texts.numbered(8, "class c", " { } ") + "class ^c7 { }");
        check.fault(4, Texts.numbered(8, "class c", " { } ") + "class ^c8 { }");
        check.fault(2, "class a { " + Texts.numbered(10, "int f", "; ") + "int ^f9; }");
        check.fault(4, "class a { " + Texts.numbered(10, "int f", "; ") + "int ^f10; }");
        check.fault(2, "class a { " + Texts.numbered(12, "member m", "() { } ") + "member ^m11() { } }");
        check.fault(4, "class a { " + Texts.numbered(12, "member m", "() { } ") + "member ^m12() { } }");
        check.fault(2, "class a { member m(p in 0 .. 1, q in 0 .. 1, r in 0 .. 1, ^r in 0 .. 1) { } }");
        check.fault(4, "class a { member m(p in 0 .. 1, q in 0 .. 1, r in 0 .. 1, ^s in 0 .. 1) { } }");
        inMember(2, Texts.numbered(8, "let l", " = 1; ") + "let ^l7 = 1;");
        inMember(4, Texts.numbered(8, "let l", " = 1; ") + "let ^l8 = 1;");
        inMember(2, times(40, "m(); ") + "^yy = 1;");
        inMember(2, times(40, "m(); ") + "^x();");
        inMember(2, times(40, "m(); ") + "^m = 1;");
        inMember(4, times(40, "m(); ") + "^x = 1;");
        inMember(4, times(40, "m(); ") + "^m();");
        // 3 ahead of 4
        check.fault(3, "class a { int r[8]; int s[8]; int t[^9]; }");
        check.fault(3, "class a { int r[8]; int s[8]; int t[8]; int u[^0]; }");
        check.fault(3, "class a { int r[8]; int s[8]; int t[8]; int u[^9]; }");
        check.fault(4, "class a { int r[8]; int s[8]; int t[8]; int u[^8]; }");
        // 1 ahead of 4
        inMember(1, times(40, "m(); ") + "^else { }");
        inMember(1, times(40, "m(); ") + "^#");
        check.fault(1, "class a { member m() " + times(8, "needs 1; ") + "^kept 1; { } }");
        // 4 ahead of 5, 6
        check.fault(4, "class a { member m() " + times(7, "needs 1; ") + "pure; ^pure; { } }");
        inMember(4, times(40, "m(); ") + "^r = 1;");
        inMember(4, times(40, "m(); ") + "^x[0] = 1;");
        check.fault(4, "class a { member m() { " + times(40, "m(); ") + "^above.m(); } }");
        inMember(4, "return " + times(40, "(") + "m^(1" + times(41, ")") + ";");
    }

    private static void leastKindOfLastToken() {
        check.sentence("of one TOKEN the least KIND (4 ROOM: the 1201st TOKEN)");
        lastToken(1, 2, "} } ", "^x", "");
        lastToken(1, 2, "} } ", "^#", "");
        lastToken(1, 1, "return ", "^abcdefghijklm", "; } }");
        lastToken(1, 1, "return ", "^1000000000", "; } }");
        lastToken(2, 1, "return ", "^yy", "; } }");
        lastToken(2, 1, "return ", "^z", "; } }");
        lastToken(2, 1, "return ", "^x", "(); } }");
        lastToken(4, 1, "return ", "^x", "; } }");
        lastToken(4, 1, "return ", "^z", "(); } }");
        lastToken(4, 1, "return ", "^r", "; } }");
        lastToken(4, 1, "return ", "^x", "[0]; } }");
        lastToken(2, 0, "", "^yy", " = 1; } }");
        lastToken(2, 0, "", "^x", "(); } }");
        lastToken(4, 0, "", "^x", " = 1; } }");
        lastToken(4, 0, "", "^r", " = 1; } }");
        lastToken(4, 0, "", "^above", ".z(); } }");
        lastToken(4, 1, "return ", "^above", ".z(); } }");
        lastToken(2, 1, "let ", "^x", " = 1; } }");
        lastToken(4, 1, "let ", "^y", " = 1; } }");
        lastToken(2, 2, "} member ", "^z", "() { } }");
        lastToken(4, 2, "} member ", "^y", "() { } }");
        lastToken(2, 4, "} member y(", "^x", " in 0 .. 1) { } }");
        lastToken(4, 4, "} member y(", "^p", " in 0 .. 1) { } }");
        lastToken(2, 6, "} member y() only ", "^p", "; { } }");
        lastToken(4, 6, "} member y() only ", "^x", "; { } }");
        lastToken(3, 8, "} member y(p in 1 .. ", "^0", ") { } }");
        lastToken(4, 8, "} member y(p in 1 .. ", "^1", ") { } }");
        lastToken(2, 3, "} } class ", "^a", " { }");
        lastToken(4, 3, "} } class ", "^b", " { }");
        lastToken(3, 8, "} } class b { int s[", "^9", "]; }");
        lastToken(4, 8, "} } class b { int s[", "^8", "]; }");
        // KINDS above 4 stay behind ROOM
        lastToken(4, 7, "} member y() pure; ", "^pure", "; { } }");
        lastToken(4, 1, "z", "^(", "1); } }");
        lastToken(4, 15, "} } class b above a { member z(p in 0 .. 1", "^)", " { } }");
        lastToken(4, 19, "} member y() pure; { } } class b above a { member y()", "^{", " } }");
        lastToken(4, 13, "return " + times(12, "-"), "^1", "; } }");
        // One TOKEN ahead of it all is as ever.
        check.fault(5, Texts.ofTokens(1200, 2, "return ^r") + "; } }");
        check.fault(2, Texts.ofTokens(1200, 2, "return ^yy") + "; } }");
        check.fault(5, Texts.ofTokens(1200, 1, "^above") + ".z(); } }");
        check.fault(6, Texts.ofTokens(1200, 2, "z^(") + "1); } }");
        check.fault(7, Texts.ofTokens(1200, 14, "return ^" + times(12, "-") + "1") + "; } }");
        check.fault(4, Texts.ofTokens(1200, 13, "return " + times(11, "-") + "1") + "^; } }");
        check.fault(5, Texts.ofTokens(1200, 8, "} member y() pure; ^pure") + "; { } }");
    }

    /** A text whose 1201st TOKEN is the one that is told apart, behind so many TOKENS within a member. */
    private static void lastToken(int kind, int aheadTokens, String ahead, String last, String behind) {
        check.fault(kind, Texts.ofTokens(1201, aheadTokens + 1, ahead + last) + behind);
    }

    private static void syntax() {
        check.sentence("1 SYNTAX: with it by the grammar no text goes on, or it is none.");
        check.fine("class a { kept 1 + 1; }");
        check.fault(1, "class a { kept 1 ^1; }");
        check.fault(1, "class a { kept 1 + ^+ 1; }");
        check.fault(1, "class a { kept 1 + ^; }");
        check.fault(1, "class a { kept (1 ^; }");
        check.fault(1, "class a { kept 1 ^); }");
        check.fault(1, "class a { kept 1 ^]; }");
        check.fault(1, "class a { int r[1]; kept r[0 ^); }");
        check.fault(1, "class a { int r[1]; kept r[^]; }");
        check.fault(1, "class a { int r[1]; kept r[0^, 0]; }");
        check.fault(1, "class a { int r[1]; kept (r[0] ^]; }");
        check.fault(1, "class a { int r[1]; kept size ^r; }");
        check.fault(1, "class a { int r[1]; kept size(^1); }");
        check.fault(1, "class a { int r[1]; kept size(r ^[0]); }");
        check.fault(1, "class a { kept 1 ^@ 1; }");
        check.fault(1, "class a { kept 1 ^& 1; }");
        check.fault(1, "class a { kept ^Abc; }");
        inMember(1, "return p(1 ^; 1);");
        inMember(1, "return p(^, 1);");
        inMember(1, "p(1, ^);");
        inMember(1, "return above ^m();");
        inMember(1, "return above.^1();");
        inMember(1, "return above.m ^;");
    }

    private static void nameNotThere() {
        check.sentence("2 NAME: not there");
        for (String near : new String[] {"xy", "y", "x0", "x_", "xx"}) {
            check.fault(2, "class a { int x; kept ^" + near + "; }");
            check.fault(2, "class a { int x; member m() { ^" + near + " = 1; } }");
            check.fault(2, "class a { int x; member m() only ^" + near + "; { } }");
            check.fault(2, "class a { int x; member m() gives old(^" + near + "); { } }");
            check.fault(2, "class a { int x[2]; kept size(^" + near + "); }");
            check.fault(2, "class a { member x() { ^" + near + "(); } }");
            check.fault(2, "class a { member x() { return ^" + near + "(); } }");
            check.fault(2, "class x { } class b above ^" + near + " { }");
            check.fault(2, "class a { member x() { } } class b above a { member m() { above.^" + near + "(); } }");
        }
        check.fine("class a { int x; int s[2]; kept x + size(s); member m() gives old(x); only x; { x = 1; m(); } } class b above a { member n() { above.m(); } }");
    }

    private static void nameThereAlready() {
        check.sentence("or there already where a new one is told (a class among classes; a field, param, LOCAL among fields that the class has, the member's params, LOCALS that are there; a member among its class's own)");
        check.fault(2, "class a { } class ^a { }");
        check.fine("class a { int a; member m() { } } class m { int m; member a(x in 0 .. 1) { let m2 = 1; } }");
        check.fault(2, "class a { int x; int ^x; }");
        check.fault(2, "class a { int x; int ^x[2]; }");
        check.fault(2, "class a { int x; } class b above a { } class c above b { int ^x; }");
        check.fine("class a { int x; } class b { int x; } class c above b { int y; }");
        check.fault(2, "class a { int x; member m(^x in 0 .. 1) { } }");
        check.fault(2, "class a { int x[2]; } class b above a { member m(^x in 0 .. 1) { } }");
        check.fault(2, "class a { member m(p in 0 .. 1, ^p in 0 .. 1) { } }");
        check.fine("class a { member m(p in 0 .. 1, q in 0 .. 1) { } member n(q in 0 .. 1, p in 0 .. 1, m in 0 .. 1) { } }");
        check.fault(2, "class a { int x; member m() { let ^x = 1; } }");
        check.fault(2, "class a { member m(p in 0 .. 1) { let ^p = 1; } }");
        check.fault(2, "class a { member m() { let l = 1; let ^l = 1; } }");
        check.fault(2, "class a { member m() { let l = 1; if 1 { let ^l = 1; } } }");
        check.fine("class a { member m() { if 1 { let l = 1; } else { let l = 1; } while 0 { let l = 1; } let l = 1; let m = 1; } member n(l in 0 .. 1) { } }");
        check.fault(2, "class a { member m() { } member ^m() { } }");
        check.fault(2, "class a { member m() { } } class b above a { member m() { } member ^m() { } }");
        check.fine("class a { member m() { } } class b above a { member m() { } } class c above b { member m() { } }");
        check.fine("class a { int x; } class b above a { member m(y in 0 .. 1) { } } class c above a { int y; }");
    }

    private static void nextTokenSeen() {
        check.sentence("A NAME with ( behind is a member's, else a field's, param's or LOCAL's: 2 and 5 of it are told as the next TOKEN is seen, ahead of what is wrong with that.");
        inMember(0, "m(); return m();");
        inMember(0, "m \n ();");
        inMember(2, "^m = 1;");
        inMember(2, "return ^m;");
        inMember(2, "^x(1);");
        inMember(2, "return ^x \n (1);");
        inMember(2, "return ^z(1);");
        for (String wrong : new String[] {"#", "yy", "}", "1", "class", "abcdefghijklm", ")"}) {
            inMember(2, "^yy " + wrong);
            inMember(2, "return ^yy " + wrong);
            inMember(5, "^r " + wrong);
            inMember(5, "return ^r " + wrong);
            inMember(1, "return x ^" + wrong);
            check.fault(2, "class a { member m() gives ^yy " + wrong);
            check.fault(5, "class a { int r[2]; member m() gives ^r " + wrong);
        }
        check.fault(2, "class a { kept ^yy");
        check.fault(5, "class a { int r[2]; kept ^r");
        check.fault(2, "class a { member m() { ^yy");
        check.fault(5, "class a { int r[2]; member m() { ^r  ");
        check.fault(1, "class a { int x; kept x^");
        inMember(2, "return ^yy(#");
        inMember(2, "return ^yy[#");
        inMember(5, "return ^x[#");
        check.fault(5, "class a { member g() { } member m() needs ^g(#");
        check.fault(1, "class a { member g(p in 0 .. 1) pure; { } member m() needs g(^#");
    }

    private static void rowRange() {
        check.sentence("3 RANGE: a ROW 1 .. 8");
        for (int n = 0; n <= 10; n++) {
            boolean fine = n >= 1 && n <= 8;
            check.fault(fine ? 0 : 3, "class a { int r[" + (fine ? "" : "^") + n + "]; }");
        }
        check.fault(3, "class a { int r[^999999999]; }");
        check.fault(3, "class a { int r[^000000000]; }");
        check.fine("class a { int r[000000008]; }");
        check.fault(3, "class a { int r[8]; } class b above a { int s[^9]; }");
    }

    private static void paramRange() {
        check.sentence("3 RANGE: .. the second num of a param below the first (at its NUMBER)");
        for (int low : new int[] {-999999999, -5, -1, 0, 1, 7, 999999998}) {
            check.fine("class a { member m(p in " + low + " .. " + low + ") { } }");
            check.fine("class a { member m(p in " + low + " .. " + (low + 1) + ") { } }");
            String below = low - 1 < 0 ? "-^" + (1 - low) : "^" + (low - 1);
            check.fault(low == -999999999 ? 1 : 3, "class a { member m(p in " + low + " .. " + below + ") { } }");
        }
        check.fine("class a { member m(p in -999999999 .. 999999999) { } }");
        check.fault(3, "class a { member m(p in 999999999 .. -^999999999) { } }");
        check.fault(3, "class a { member m(p in 0 .. 1, q in 0 .. 1, r in 0 .. -^1) { } }");
        check.fine("class a { member m(p in 0 .. -0) { } }");
    }

    private static void tokenRoom() {
        check.sentence("4 ROOM: the 1201st TOKEN");
        check.fine(Texts.ofTokens(1199, 2, "} }"));
        check.fine(Texts.ofTokens(1200, 2, "} }"));
        check.fault(4, Texts.ofTokens(1201, 2, "} ^}"));
        check.fault(4, Texts.ofTokens(1202, 2, "^} }"));
        check.fault(4, Texts.ofTokens(1203, 5, "return 1^; } }"));
        check.fault(4, Texts.ofTokens(1204, 5, "return ^1; } }"));
        check.fault(4, Texts.ofTokens(1205, 5, "^return 1; } }"));
        check.fault(1, Texts.ofTokens(1200, 3, "} } ^}"));
        check.fault(1, Texts.ofTokens(1200, 2, "} }") + " ^}");
        check.fault(4, Texts.ofTokens(1200, 2, "} }") + " ^class b { }");
        check.fault(4, Texts.ofTokens(1199, 2, "} }") + " class ^b { }");
    }

    private static void classRoom() {
        check.sentence("4 ROOM: .. the 9th class (at its NAME)");
        for (int n = 7; n <= 8; n++) {
            String text = Texts.numbered(n, "class c", " { } ");
            check.fine(text);
            check.is("as many", Check.tell(new TrialGarden(), text), n);
        }
        check.fault(4, Texts.numbered(8, "class c", " { } ") + "class ^d { }");
        check.fault(4, Texts.numbered(8, "class c", " { } ") + "class ^d #");
        check.fault(1, Texts.numbered(8, "class c", " { } ") + "class ^{");
    }

    private static void fieldRoom() {
        check.sentence("4 ROOM: .. the 11th field that a class has (at its NAME)");
        check.fine("class a { " + Texts.numbered(9, "int f", "; ") + "}");
        check.fine("class a { " + Texts.numbered(10, "int f", "; ") + "}");
        check.fault(4, "class a { " + Texts.numbered(10, "int f", "; ") + "int ^g; }");
        check.fault(4, "class a { " + Texts.numbered(10, "int f", "; ") + "int ^g[1]; }");
        check.fault(4, "class a { " + Texts.numbered(10, "int f", "; ") + "int ^g #");
        check.fault(1, "class a { " + Texts.numbered(10, "int f", "; ") + "int ^;");
        for (int above = 8; above <= 10; above++) {
            String two = "class a { " + Texts.numbered(above, "int f", "; ") + "} class b above a { " + Texts.numbered(10 - above, "int g", "; ");
            check.fine(two + "}");
            check.fault(4, two + "int ^h; }");
            check.fine(two + "} class c { " + Texts.numbered(10, "int f", "; ") + "}");
        }
        check.fine("class a { " + Texts.numbered(10, "int f", "[2]; ") + "}");
    }

    private static void rowCellRoom() {
        check.sentence("4 ROOM: .. a ROW by which it has more than 24 CELLS (at the NUMBER)");
        for (int last = 1; last <= 8; last++) {
            // 16 CELLS, and so many more that the last ROW comes to 23, 24, 25
            for (int all = 23; all <= 25; all++) {
                int between = all - 16 - last;
                if (between > 8 || between < 0) {
                    continue;
                }
                String text = "class a { int r[8]; int s[8]; " + (between > 0 ? "int t[" + between + "]; " : "");
                check.fault(all > 24 ? 4 : 0, text + "int u[" + (all > 24 ? "^" : "") + last + "]; }");
                check.fault(all > 24 ? 4 : 0, text + "} class b above a { int u[" + (all > 24 ? "^" : "") + last + "]; }");
            }
        }
        check.fault(4, "class a { int r[8]; int s[8]; int t[8]; int u[^1 #");
        check.fault(1, "class a { int r[8]; int s[8]; int t[8]; int u[^#");
        check.fault(1, "class a { int r[8]; int s[8]; int t[8]; int u[^]; }");
    }

    private static void plainCellRoom() {
        check.sentence("4 ROOM: .. another field by which it has (one each; at its NAME, as the next TOKEN is seen to be no [ )");
        check.fine("class a { int r[8]; int s[8]; int t[6]; int u; }");
        check.fine("class a { int r[8]; int s[8]; int t[7]; int u; }");
        check.fault(4, "class a { int r[8]; int s[8]; int t[8]; int ^u; }");
        check.fault(4, "class a { int r[8]; int s[8]; int t[8]; int ^u = 1; }");
        check.fault(4, "class a { int r[8]; int s[8]; int t[7]; int u; int ^v; }");
        check.fault(4, "class a { int r[8]; int s[8]; int t[8]; } class b above a { int ^u; }");
        for (String wrong : new String[] {"#", "}", "]", "1", "int", ""}) {
            check.fault(4, "class a { int r[8]; int s[8]; int t[8]; int ^u " + wrong);
            check.fault(1, "class a { int r[8]; int s[8]; int t[7]; int u ^" + wrong);
        }
        check.fault(4, "class a { int r[8]; int s[8]; int t[8]; int u[^1]; }");
        check.fault(2, "class a { int r[8]; int s[8]; int t[8]; int ^t; }");
    }

    private static void keptRoom() {
        check.sentence("4 ROOM: .. the 9th kept of a class (at \"kept\")");
        check.fine("class a { " + times(7, "kept 1; ") + "}");
        check.fine("class a { " + times(8, "kept 1; ") + "}");
        check.fault(4, "class a { " + times(8, "kept 1; ") + "^kept 1; }");
        check.fault(4, "class a { " + times(8, "kept 1; ") + "^kept #");
        check.fine("class a { " + times(8, "kept 1; ") + "} class b above a { " + times(8, "kept 1; ") + "}");
        check.fault(4, "class a { " + times(8, "kept 1; ") + "} class b above a { " + times(8, "kept 1; ") + "^kept 1; }");
    }

    private static void memberRoom() {
        check.sentence("4 ROOM: .. the 13th member that a class has (at its NAME)");
        check.fine("class a { " + Texts.numbered(11, "member m", "() { } ") + "}");
        check.fine("class a { " + Texts.numbered(12, "member m", "() { } ") + "}");
        check.fault(4, "class a { " + Texts.numbered(12, "member m", "() { } ") + "member ^n() { } }");
        check.fault(4, "class a { " + Texts.numbered(12, "member m", "() { } ") + "member ^n #");
        check.fault(1, "class a { " + Texts.numbered(12, "member m", "() { } ") + "member ^(");
        for (int above = 10; above <= 12; above++) {
            String two = "class a { " + Texts.numbered(above, "member m", "() { } ") + "} class b above a { " + Texts.numbered(12 - above, "member n", "() { } ");
            check.fine(two + "}");
            check.fine(two + "member m9() { } member m0() { } }");
            check.fault(4, two + "member ^o() { } }");
            check.fault(4, two + "member m0() { } member ^o() { } }");
        }
        String eight = "";
        for (int c = 0; c < 8; c++) {
            eight += "class c" + c + (c == 0 ? "" : " above c" + (c - 1)) + " { " + Texts.numbered(12, "member m", "() { return " + (c + 1) + "; } ") + "} ";
        }
        check.fault(4, eight.substring(0, eight.length() - 2) + "member ^n() { } }");
        TrialGarden g = check.garden(eight);
        for (int c = 0; c < 8; c++) {
            for (int m = 0; m < 12; m++) {
                check.is("who tells " + m + " of " + c, g.member(c, m, 0), c);
                check.is("where", g.member(c, m, 5), eight.indexOf("m" + m + "(", eight.indexOf("class c" + c)));
            }
        }
        check.ran(g, "m7 0.11 0.0", 0);
        check.is("the last of all", g.told(1, 5), 8);
        check.fine("class a { " + Texts.numbered(12, "member m", "() { } ") + "} class b above a { " + Texts.numbered(12, "member m", "() { } ") + "} class c { " + Texts.numbered(12, "member m", "() { } ") + "}");
    }

    private static void paramRoom() {
        check.sentence("4 ROOM: .. the 4th param (at its NAME)");
        check.fine("class a { member m(p in 0 .. 1, q in 0 .. 1) { } }");
        check.fine("class a { member m(p in 0 .. 1, q in 0 .. 1, r in 0 .. 1) { } }");
        check.fault(4, "class a { member m(p in 0 .. 1, q in 0 .. 1, r in 0 .. 1, ^s in 0 .. 1) { } }");
        check.fault(4, "class a { member m(p in 0 .. 1, q in 0 .. 1, r in 0 .. 1, ^s #");
        check.fault(1, "class a { member m(p in 0 .. 1, q in 0 .. 1, r in 0 .. 1, ^) { } }");
        check.fine("class a { member m(p in 0 .. 1, q in 0 .. 1, r in 0 .. 1) { } member n(p in 0 .. 1, q in 0 .. 1, r in 0 .. 1) { } }");
    }

    private static void markRoom() {
        check.sentence("4 ROOM: .. the 9th mark of a member (at its first TOKEN)");
        String[] marks = {"needs 1; ", "gives 1; ", "throws w; ", "throws w when 1; ", "only x; ", "pure; "};
        for (String mark : marks) {
            check.fine("class a { int x; member m() " + times(6, "needs 1; ") + mark + "{ } }");
            check.fine("class a { int x; member m() " + times(7, "needs 1; ") + mark + "{ } }");
            check.fault(4, "class a { int x; member m() " + times(8, "needs 1; ") + "^" + mark + "{ } }");
            if (!mark.startsWith("only") && !mark.startsWith("pure")) {
                check.fine("class a { int x; member m() " + times(8, mark) + "{ } }");
                check.fault(4, "class a { int x; member m() " + times(8, mark) + "^needs 1; { } }");
            }
        }
        check.fault(4, "class a { int x; member m() " + times(8, "needs 1; ") + "^needs #");
        check.fine("class a { member m() " + times(8, "needs 1; ") + "{ } member n() " + times(8, "needs 1; ") + "{ } } class b above a { member m() " + times(8, "needs 1; ") + "{ } }");
    }

    private static void blockRoom() {
        check.sentence("4 ROOM: .. the 9th { within a member (open)");
        for (String opens : new String[] {"if 1 ", "while 1 ", "if 1 { } else "}) {
            inMember(0, times(6, opens + "{ ") + times(6, "} "));
            inMember(0, times(7, opens + "{ ") + times(7, "} "));
            if (opens.endsWith("1 ")) {
                inMember(4, times(7, opens + "{ ") + opens + "^{ } " + times(7, "} "));
                inMember(4, times(7, opens + "{ ") + opens + "^{ #");
                inMember(0, times(20, opens + "{ } "));
            }
            inMember(0, times(6, opens + "{ ") + times(10, "if 1 { } ") + times(6, "} "));
        }
        inMember(4, times(6, "if 1 { ") + "if 1 { } else { if 1 ^{ } } " + times(6, "} "));
        inMember(0, times(6, "if 1 { ") + "if 1 { } else { } " + times(6, "} "));
        inMember(1, times(7, "if 1 { ") + "if 1 ^x = 1; " + times(7, "} "));
        check.fine("class a { member m() { " + times(7, "if 1 { ") + times(7, "} ") + "} member n() { " + times(7, "if 1 { ") + times(7, "} ") + "} }");
    }

    private static void openRoom() {
        check.sentence("4 ROOM: .. the 41st thing open in an ex ( ( and [ of ex, - ! )");
        // what may be the last that opens, with what closes it, and where it opens
        String[][] last = {{"^(", "1)"}, {"^-", "1"}, {"^!", "1"}, {"r^[", "1]"}, {"m^(", ")"}, {"p^(", "1, 1)"}, {"above.m^(", ")"}, {"size^(", "r)"}};
        for (String[] one : last) {
            String opened = one[0] + one[1];
            inMember(0, "return " + times(38, "(") + opened.replace("^", "") + times(38, ")") + ";");
            inMember(0, "return " + times(39, "(") + opened.replace("^", "") + times(39, ")") + ";");
            inMember(4, "return " + times(40, "(") + opened + times(40, ")") + ";");
            inMember(4, "return " + times(40, "(") + one[0] + "#");
            // closed ones are open no more
            inMember(0, "return " + times(39, "(") + opened.replace("^", "") + " + " + opened.replace("^", "") + times(39, ")") + ";");
            inMember(4, "return " + times(39, "(") + opened.replace("^", "") + " + (" + opened + ")" + times(39, ")") + ";");
        }
        String[] opens = {"-", "!", "r[", "p(1, ", "above.p(1, "};
        for (String one : opens) {
            // eleven of each at most, or it is too high: the others are (
            String ahead = times(29, "(") + times(11, one);
            inMember(4, "return " + ahead + "^(1");
            inMember(0, "return " + times(29, "(") + times(11, one) + "1" + times(11, one.endsWith("[") ? "]" : one.endsWith(" ") ? ")" : "") + times(29, ")") + ";");
        }
        String gives = "class a { int x; int r[3]; member m() gives ";
        check.fine(gives + times(39, "(") + "old(x)" + times(39, ")") + "; { } }");
        check.fault(4, gives + times(40, "(") + "old^(x)" + times(40, ")") + "; { } }");
        check.fine(gives + times(38, "(") + "old(r[0])" + times(38, ")") + "; { } }");
        check.fine(gives + times(38, "(") + "old(r[0]) + old(r[1]) + old(r[2])" + times(38, ")") + "; { } }");
        check.fine(gives + times(39, "(") + "old(x) + old(x) + old(x)" + times(39, ")") + "; { } }");
        check.fault(4, gives + times(39, "(") + "old(x) + old(r^[0])" + times(39, ")") + "; { } }");
        check.fault(4, gives + times(39, "(") + "old(r^[0])" + times(39, ")") + "; { } }");
        check.fault(4, gives + times(40, "(") + "old^(r[0])" + times(40, ")") + "; { } }");
        // the brackets with which a st begins are none of an ex, and each ex begins anew
        inMember(0, "r[" + times(40, "(") + "1" + times(40, ")") + "] = " + times(40, "(") + "1" + times(40, ")") + ";");
        inMember(0, "p(" + times(40, "(") + "1" + times(40, ")") + ", " + times(40, "(") + "1" + times(40, ")") + ");");
        inMember(0, "above.p(1, " + times(40, "(") + "1" + times(40, ")") + ");");
        inMember(4, "r[" + times(40, "(") + "^(1");
        inMember(4, "p(1, " + times(40, "(") + "^(1");
    }

    private static void stRoom() {
        check.sentence("4 ROOM: .. the 41st st of a member (at its first TOKEN)");
        String[] sts = {"x = 1; ", "r[0] = 1; ", "m(); ", "above.m(); ", "throw w; ", "return 1; ", "if 1 { } ", "while 0 { } ", "let l = 1; "};
        for (String st : sts) {
            inMember(0, times(38, "m(); ") + st);
            inMember(0, times(39, "m(); ") + st);
            inMember(4, times(40, "m(); ") + "^" + st);
        }
        inMember(4, times(40, "x = 1; ") + "^m(#");
        // st within st count, and what holds them as well
        inMember(0, times(38, "m(); ") + "if 1 { m(); }");
        inMember(4, times(38, "m(); ") + "if 1 { m(); ^m(); }");
        inMember(4, times(39, "m(); ") + "if 1 { ^m(); }");
        inMember(4, times(38, "m(); ") + "if 1 { m(); } else { ^m(); }");
        inMember(0, times(36, "m(); ") + "if 1 { m(); } else { while 0 { m(); } }");
        inMember(4, times(37, "m(); ") + "if 1 { m(); } else { while 0 { ^m(); } }");
        check.fine("class a { member m() { " + times(40, "m(); ") + "} member n() { " + times(40, "m(); ") + "} }");
    }

    private static void localRoom() {
        check.sentence("4 ROOM: .. the 9th LOCAL there (at its NAME)");
        inMember(0, Texts.numbered(7, "let l", " = 1; "));
        inMember(0, Texts.numbered(8, "let l", " = 1; "));
        inMember(4, Texts.numbered(8, "let l", " = 1; ") + "let ^k = 1;");
        inMember(4, Texts.numbered(8, "let l", " = 1; ") + "let ^k #");
        inMember(4, Texts.numbered(8, "let l", " = 1; ") + "if 1 { let ^k = 1; }");
        // those that are there no more do not count, nor do params and fields
        for (int within = 1; within <= 8; within++) {
            String some = Texts.numbered(8 - within, "let l", " = 1; ") + "if 1 { " + Texts.numbered(within, "let k", " = 1; ");
            inMember(0, some + "} while 0 { " + Texts.numbered(within, "let j", " = 1; ") + "} " + Texts.numbered(within, "let i", " = 1; "));
            inMember(4, some + "let ^h = 1; }");
        }
        check.fine("class a { " + Texts.numbered(10, "int f", "; ") + "member m(p in 0 .. 1, q in 0 .. 1, r in 0 .. 1) { " + Texts.numbered(8, "let l", " = 1; ") + "} member n() { " + Texts.numbered(8, "let l", " = 1; ") + "} }");
        // Eight LOCALS and three params of each of ten members in one another are their own.
        StringBuilder lets = new StringBuilder();
        StringBuilder asked = new StringBuilder();
        for (int i = 0; i < 8; i++) {
            lets.append("let l").append(i).append(" = a * 10 + ").append(i).append("; ");
            asked.append("if l").append(i).append(" != a * 10 + ").append(i).append(" { broken = broken + 1; } ");
        }
        TrialGarden g = check.ran("class a { int broken; int done; member deep(a in 0 .. 99, b in 0 .. 99, c in 0 .. 99) { " + lets
            + "if a > 1 { deep(a - 1, b + 1, c + 2); } if b != 40 - a || c != 60 - 2 * a { broken = 100; } " + asked + "done = done + 1; } }", "m0 0.0(10,30,40)", 0);
        check.is("all as they were", g.cell(0, 0), 0);
        check.is("each of them", g.cell(0, 1), 10);
    }

    private static void partRoom() {
        check.sentence("4 ROOM: .. the 2001st PART of ex (a NUMBER, place, call, operator, old with its place besides, result, size ..; the place or call with which a st begins is none");
        String text = "class a { int x; int r[2]; member f(p in 0 .. 1) pure; { } } class b above a { ";
        String[] ex = {"1", "x", "r[0]", "f(0)", "above.f(0)", "1 + 1", "-1", "!1", "(1)", "old(x)", "old(r[0])", "result", "size(r)", "1 && x || f(1)", "r[r[x]]"};
        int[] parts = {1, 1, 2, 2, 2, 3, 2, 2, 1, 2, 3, 1, 1, 6, 3};
        for (int i = 0; i < ex.length; i++) {
            TrialGarden g = check.garden(text + "member m() gives " + ex[i] + "; { } }");
            check.is("PARTS of " + ex[i], g.count(2), parts[i]);
        }
        String[] st = {"x = 1;", "r[0] = 1;", "f(1);", "above.f(1);", "let l = 1;", "return 1;", "throw w;", "if 1 { }", "while x { }"};
        int[] inSt = {1, 2, 1, 1, 1, 1, 0, 1, 1};
        for (int i = 0; i < st.length; i++) {
            TrialGarden g = check.garden(text + "member m() { " + st[i] + " } }");
            check.is("PARTS of " + st[i], g.count(2), inSt[i]);
        }
        // No text has 2001: 1200 TOKENS are fewer PARTS. One with nearly as many as there can be is taken.
        String full = "return 1" + times(11, "+1") + "; ";
        TrialGarden g = check.garden("class a { member m() { " + times(40, full) + "} member n() { " + times(7, full) + "} }");
        check.is("47 times 23", g.count(2), 47 * 23);
    }

    private static void rowSort() {
        check.sentence("5 SORT: a ROW without [ behind, or something else with it (at the NAME)");
        inMember(0, "r[0] = r[1]; x = x; z = z;");
        for (String place : new String[] {"x", "z", "l"}) {
            inMember(5, "let l = 1; ^" + place + "[0] = 1;");
            inMember(5, "let l = 1; return 1 + ^" + place + "[0];");
            inMember(0, "let l = 1; " + place + " = " + place + ";");
        }
        for (String behind : new String[] {"= 1;", "+ 1;", ";", ") ;", "]"}) {
            inMember(5, "^r " + behind);
            inMember(5, "return ^r " + behind);
            inMember(5, "return r[^r " + behind);
        }
        check.fault(5, "class a { int r[2]; member m() gives old(^r); { } }");
        check.fault(5, "class a { int x; member m() gives old(^x[0]); { } }");
        check.fine("class a { int r[2]; int x; member m() gives old(r[0]) + old(x); only r, x; { } }");
    }

    private static void sizeSort() {
        check.sentence("5 SORT: .. in size( ) no ROW");
        check.fine("class a { int r[1]; kept size(r); member m() needs size(r); gives size(r); throws w when size(r); { return size(r); } }");
        check.fault(5, "class a { int x; kept size(^x); }");
        check.fault(5, "class a { member m(p in 0 .. 1) needs size(^p); { } }");
        check.fault(5, "class a { member m() { let l = 1; return size(^l); } }");
        check.fault(2, "class a { member m() { return size(^m); } }");
        check.fault(1, "class a { int r[1]; kept size(r^[0]); }");
        check.fault(2, "class a { member m() { return size(^m()); } }");
        TrialGarden g = check.ran("class a { int r[1]; int s[8]; } class b above a { int t[5]; member m() { return size(r) * 100 + size(s) * 10 + size(t); } }", "m1 0.0", 0);
        check.is("what it gives", g.told(1, 5), 185);
    }

    private static void callSort() {
        check.sentence("5 SORT: .. a call in kept or a mark of a member that is not PURE");
        String two = "class a { member f() pure; { } member g(p in 0 .. 1) { } } class b above a { ";
        check.fine(two + "kept f(); member m() needs f(); gives above.f(); throws w when f(); { g(f()); return above.g(1); } }");
        check.fault(5, two + "kept ^g(1); }");
        check.fault(5, two + "kept above.^g(1); }");
        check.fault(5, two + "member m() needs ^g(1); { } }");
        check.fault(5, two + "member m() gives f() + ^g(1); { } }");
        check.fault(5, two + "member m() throws w when above.^g(1); { } }");
        check.fault(5, two + "member m() needs ^m(); { } }");
        check.fault(5, two + "member m() needs ^g(); { } }");
        check.fine(two + "member m() pure; needs m(); { } }");
    }

    private static void oldSort() {
        check.sentence("5 SORT: .. old of what is no field");
        check.fine("class a { int x; int r[2]; member m(p in 0 .. 1) gives old(x) + old(r[p]) + p; { } }");
        check.fine("class a { int x; int r[2]; } class b above a { member m(p in 0 .. 1) gives old(x) + old(r[p]); { } }");
        check.fault(5, "class a { int x; member m(p in 0 .. 1) gives old(^p); { } }");
        check.fault(5, "class a { int x; member m(p in 0 .. 1) gives old(^p[0]); { } }");
        check.fault(2, "class a { int x; member m(p in 0 .. 1) gives old(^q); { } }");
        check.fault(2, "class a { int x; member m(p in 0 .. 1) gives old(^m); { } }");
    }

    private static void overrideSort() {
        check.sentence("5 SORT: .. a member that OVERRIDES with another number of params (at the ) behind them)");
        String[] params = {"", "p in 0 .. 1", "p in 0 .. 1, q in 0 .. 1", "p in 0 .. 1, q in 0 .. 1, r in 0 .. 1"};
        for (int over = 0; over <= 3; over++) {
            for (int own = 0; own <= 3; own++) {
                String text = "class a { member m(" + params[over] + ") { } } class b above a { } class c above b { member m(" + params[own];
                check.fault(own == over ? 0 : 5, text + (own == over ? "" : "^") + ") { } }");
                check.fault(own == over ? 1 : 5, text + (own == over ? ") ^#" : "^) #"));
            }
        }
        check.fine("class a { member m() { } } class b { member m(p in 0 .. 1) { } }");
        check.fine("class a { member m(p in 0 .. 1) { } } class b above a { member m(q in -9 .. -5) { } }");
    }

    private static void pureSort() {
        check.sentence("5 SORT: .. or a PURE one without being PURE (at its block's { )");
        check.fault(5, "class a { member m() pure; { } } class b above a { member m() ^{ } }");
        check.fault(5, "class a { int x; member m() pure; { } } class b above a { member m() only x; needs 1; ^{ } }");
        check.fault(5, "class a { member m() pure; { } } class b above a { } class c above b { member m() ^{ #");
        check.fine("class a { member m() pure; { } } class b above a { member m() needs 1; pure; { } } class c above b { member m() pure; gives 1; { } }");
        check.fine("class a { member m() { } } class b above a { member m() pure; { } }");
        check.fine("class a { member m() { } } class b above a { member m() { } }");
        check.fault(5, "class a { member m() { } } class b above a { member m() pure; { } } class c above b { member m() ^{ } }");
        check.fault(1, "class a { member m() pure; { } } class b above a { member m() ^}");
    }

    private static void aboveSort() {
        check.sentence("5 SORT: .. above. without a class above (at \"above\")");
        check.fault(5, "class a { member m() { ^above.m(); } }");
        check.fault(5, "class a { member m() { return 1 + ^above.m(); } }");
        check.fault(5, "class a { kept ^above.m(); }");
        check.fault(5, "class a { member m() { ^above #");
        check.fault(5, "class a { member m() { return ^above #");
        check.fault(5, "class a { member m() { } } class b { member m() { ^above.m(); } }");
        check.fine("class a { member m() { } } class b above a { member m() { above.m(); return above.m(); } }");
        check.fault(1, "class a { member m() { } } class b above a { member m() { above ^#");
    }

    private static void narrowSort() {
        check.sentence("5 SORT: .. the second pure, or only, or both (at the word)");
        String head = "class a { int x; member m() ";
        check.fine(head + "pure; { } }");
        check.fine(head + "only x; { } }");
        check.fine(head + "needs 1; { } }");
        for (String one : new String[] {"pure; ", "only x; "}) {
            for (String other : new String[] {"pure; ", "only x; "}) {
                check.fault(5, head + one + "^" + other + "{ } }");
                check.fault(5, head + one + "gives 1; ^" + other + "{ } }");
                check.fine(head + one + "{ } member n() " + other + "{ } }");
            }
            check.fault(5, head + one + "^pure #");
            check.fault(5, head + one + "^only #");
        }
    }

    private static void arguments() {
        check.sentence("6 ARGUMENTS: at the ) too few; at the , ahead of one too many");
        String[] params = {"", "p in 0 .. 1", "p in 0 .. 1, q in 0 .. 1", "p in 0 .. 1, q in 0 .. 1, r in 0 .. 1"};
        for (int has = 1; has <= 3; has++) {
            for (int given = 0; given <= 4; given++) {
                String call = "(" + Texts.joined(given, "1", ", ") + (given < has ? "^)" : ")");
                if (given > has) {
                    call = "(" + Texts.joined(has, "1", ", ") + "^, " + Texts.joined(given - has, "1", ", ") + ")";
                }
                String text = "class a { member f(" + params[has] + ") pure; { } } class b above a { ";
                for (String st : new String[] {"member m() { f%s; }", "member m() { above.f%s; }", "member m() { return 1 + f%s; }", "member m() { return above.f%s; }", "kept f%s;", "member m() gives above.f%s; { }"}) {
                    check.fault(given == has ? 0 : 6, text + st.formatted(call) + " }");
                }
                // behind calls that are right, and of a class whose members are told behind others
                String fine = "f(" + Texts.joined(has, "1", ", ") + ")";
                String other = "class z { member q() { } member r() { } member s() { } } class y { member e() { } member f(" + params[has] + ") pure; { } ";
                check.fault(given == has ? 0 : 6, text + "member m() { " + fine + "; return " + fine + "; return " + fine + " + " + fine + "; return f" + call + "; } }");
                check.fault(given == has ? 0 : 6, other + "member m() { " + fine + "; return " + fine + " + f" + call + "; } }");
                check.fault(given == has ? 0 : 6, other + "member m() { " + fine + "; f" + call + "; } }");
                if (given < has) {
                    check.fault(6, text + "member m() { f" + call + " #");
                    check.fault(6, text + "member m() { return f" + call + " #");
                }
                if (given > has) {
                    check.fault(6, text + "member m() { f(" + Texts.joined(has, "1", ", ") + "^, #");
                    check.fault(6, text + "member m() { return f(" + Texts.joined(has, "1", ", ") + "^, yy");
                }
            }
        }
    }

    private static void argumentsOfNone() {
        check.sentence("6 ARGUMENTS: .. (of a member without params at the ( , as the next TOKEN is seen to be no ) )");
        for (String call : new String[] {"m%s", "above.m%s", "return m%s", "return 1 + above.m%s", "x = m%s", "if m%s"}) {
            boolean test = call.startsWith("if");
            inMember(0, call.formatted("()") + (test ? " { }" : ";"));
            inMember(0, call.formatted("( \n )") + (test ? " { }" : ";"));
            for (String behind : new String[] {"1)", "1, 1)", ", )", "#", "yy)", ";", "}"}) {
                inMember(6, call.formatted("^(" + behind));
            }
            inMember(1, call.formatted("() ^)"));
        }
        check.fault(6, "class a { member m() { m^(");
        check.fault(6, "class a { member m() { return m^(");
    }

    private static void operatorHeight() {
        check.sentence("7 HEIGHT: more than 12 PARTS of an ex in one another .., at its operator");
        for (String operator : new String[] {"||", "&&", "==", "!=", "<", "<=", ">", ">=", "+", "-", "*", "/", "%"}) {
            String one = " " + operator + " 1";
            inMember(0, "return 1" + times(10, one) + ";");
            inMember(0, "return 1" + times(11, one) + ";");
            inMember(7, "return 1" + times(11, one) + " ^" + operator + " 1;");
            inMember(7, "return 1" + times(11, one) + " ^" + operator + " 1" + one + ";");
            // from the right too
            inMember(0, "return " + times(10, "1 " + operator + " (") + "1" + one + times(10, ")") + ";");
            inMember(7, "return 1 ^" + operator + " (" + times(10, "1 " + operator + " (") + "1" + one + times(11, ")") + ";");
        }
        for (String sign : new String[] {"-", "!"}) {
            inMember(0, "return " + times(10, sign) + "x;");
            inMember(0, "return " + times(11, sign) + "x;");
            inMember(7, "return ^" + times(12, sign) + "x;");
            inMember(7, "return " + sign + "^" + times(12, sign) + "x;");
            inMember(7, "return 1 ^+ " + times(11, sign) + "x;");
            inMember(0, "return 1 + " + times(10, sign) + "x;");
            inMember(7, "return " + times(11, sign) + "x ^+ 1;");
        }
        // ( ) has no HEIGHT, nor has what is beside
        inMember(0, "return " + times(20, "(") + "1" + times(11, " + 1") + times(20, ")") + ";");
        inMember(0, "return (1" + times(5, " + 1") + ") * (1" + times(5, " + 1") + ") - (1 + 1) * (1 + 1);");
        inMember(7, "return 1 ^+ (1" + times(11, " + 1") + ");");
    }

    private static void placeHeight() {
        check.sentence("7 HEIGHT: .. a place or call of a ROW or with arguments is one over the highest ex in it .., at its .. NAME");
        inMember(0, "return r[" + times(10, "-") + "1];");
        inMember(0, "return " + times(11, "r[") + "1" + times(11, "]") + ";");
        inMember(7, "return ^r[" + times(11, "-") + "1];");
        inMember(7, "return ^" + times(12, "r[") + "1" + times(12, "]") + ";");
        inMember(7, "return r[^" + times(12, "r[") + "1" + times(13, "]") + ";");
        for (String call : new String[] {"p(%s, 1)", "p(1, %s)", "above.p(%s, 1)", "above.p(1, %s)"}) {
            inMember(0, "return " + call.formatted(times(9, "-") + "1") + ";");
            inMember(0, "return " + call.formatted(times(10, "-") + "1") + ";");
            inMember(7, "return " + call.replace("p(", "^p(").formatted(times(11, "-") + "1") + ";");
            inMember(0, "return -" + call.formatted(times(9, "-") + "1") + ";");
            inMember(7, "return ^-" + call.formatted(times(10, "-") + "1") + ";");
        }
        // each by its own, whatever was ahead
        inMember(0, "return p(" + times(10, "-") + "1, 1); return " + times(10, "-") + "p(1, 1); return " + times(10, "-") + "r[1]; return p(1, 1);");
        inMember(7, "return p(" + times(10, "-") + "1, 1); return ^" + times(11, "-") + "p(1, 1);");
        // a call without arguments, a field, a param, a NUMBER, result, size are 1
        for (String one : new String[] {"m()", "above.m()", "x", "z", "1", "size(r)", "(1)"}) {
            inMember(0, "return " + times(10, "-") + one + ";");
            inMember(0, "return " + times(11, "-") + one + ";");
            inMember(7, "return ^" + times(12, "-") + one + ";");
        }
        check.fine("class a { member m() gives " + times(11, "-") + "result; { } }");
        check.fault(7, "class a { member m() gives ^" + times(12, "-") + "result; { } }");
        // the place or call with which a st begins has none
        inMember(0, "r[" + times(11, "-") + "1] = " + times(11, "-") + "1;");
        inMember(0, "p(" + times(11, "-") + "1, " + times(11, "-") + "1);");
        inMember(0, "above.p(1, " + times(11, "-") + "1);");
        inMember(7, "r[^" + times(12, "-") + "1] = 1;");
        inMember(7, "p(1, ^" + times(12, "-") + "1);");
    }

    private static void oldHeight() {
        check.sentence("7 HEIGHT: .. old one over a ROW's .., at its .. old");
        String gives = "class a { int x; int r[2]; member m() gives ";
        check.fine(gives + "old(r[" + times(8, "-") + "1]); { } }");
        check.fine(gives + "old(r[" + times(9, "-") + "1]); { } }");
        check.fault(7, gives + "^old(r[" + times(10, "-") + "1]); { } }");
        check.fault(7, gives + "1 + ^old(r[" + times(10, "-") + "1]); { } }");
        check.fault(7, gives + "old(^r[" + times(11, "-") + "1]); { } }");
        check.fine(gives + times(9, "-") + "old(r[0]); { } }");
        check.fault(7, gives + "^" + times(10, "-") + "old(r[0]); { } }");
        check.fine(gives + "-old(r[" + times(8, "-") + "1]); { } }");
        check.fault(7, gives + "^-old(r[" + times(9, "-") + "1]); { } }");
    }

    private static void heightSeen() {
        check.sentence("7 HEIGHT: .. as it is whole (the TOKEN behind is looked at for that)");
        for (String wrong : new String[] {"#", "}", ")", "yy", "", "1"}) {
            inMember(7, "return ^" + times(12, "-") + "1 " + wrong);
            inMember(7, "return 1" + times(11, " + 1") + " ^+ 1 " + wrong);
            inMember(7, "return ^r[" + times(11, "-") + "1] " + wrong);
            inMember(7, "return ^p(1, " + times(11, "-") + "1) " + wrong);
            inMember(7, "return above.^p(1, " + times(11, "-") + "1) " + wrong);
            check.fault(7, "class a { int r[2]; member m() gives ^old(r[" + times(10, "-") + "1]) " + wrong);
            check.fault(7, "class a { int r[2]; member m() gives old(^r[" + times(11, "-") + "1] " + wrong);
        }
        // It goes ahead of ARGUMENTS at the TOKEN behind.
        for (String call : new String[] {"p", "above.p", "return p", "return above.p"}) {
            inMember(7, call + "(^" + times(12, "-") + "1);");
            inMember(7, call + "(1, ^" + times(12, "-") + "1, 1);");
            inMember(6, call + "(" + times(11, "-") + "1^);");
        }
        // It is not whole while one that binds faster may come, or its right side is wrong.
        inMember(1, "return 1" + times(11, " + 1") + " + ^;");
        inMember(2, "return 1" + times(11, " + 1") + " + ^yy;");
        inMember(1, "return 1" + times(11, " + 1") + " + 1 * ^;");
        inMember(7, "return 1" + times(11, " + 1") + " ^+ 1 * 1;");
        inMember(1, "return " + times(12, "-") + "^;");
        inMember(1, "return r[" + times(11, "-") + "1 ^;");
        inMember(6, "return p(" + times(11, "-") + "1^);");
        check.fault(1, "class a { int r[2]; member m() gives old(r[" + times(10, "-") + "1] ^;");
    }
}
