import java.util.List;

/** Terms I, but for the FAULTS told there: each sentence on TOKENS, the grammar and NAMES that has a boundary. */
public final class EdgesOfTextsTest {
    private static final Check check = new Check();
    private static final List<String> QUOTED = List.of(("class above int kept member in needs gives throws when only pure "
        + "let if else while return throw old result size").split(" "));

    public static void main(String[] args) {
        tape();
        blanks();
        words();
        wordLetters();
        numbers();
        signs();
        tokens();
        textGrammar();
        classGrammar();
        numGrammar();
        paramGrammar();
        markGrammar();
        stGrammar();
        exGrammar();
        signsAhead();
        quoted();
        classAbove();
        hasFields();
        hasMembers();
        places();
        locals();
        calls();
        callsAbove();
        givesAlone();
        marksSee();
        pureCalls();
        check.end();
    }

    private static void tape() {
        check.sentence("THE TAPE has at most 4000 bytes");
        for (int size = 3998; size <= 4000; size++) {
            check.fine("class a {" + " ".repeat(size - 10) + "}");
            check.fault(1, "class a {" + " ".repeat(size - 9) + "^");
            check.fault(1, "class a {" + " ".repeat(size - 10) + "^#");
        }
        TrialGarden g = new TrialGarden();
        Check.onTape(g, "class a {" + " ".repeat(3990) + "}");
        check.is("the 4001st byte", g.feed(0x20202020, 0x20202020, 0x20202020, 0x20202020, 0x20202020), -3);
        check.is("the text of 4000 bytes stays", g.classes(), 1);
    }

    private static void blanks() {
        check.sentence("TOKENS, with any blanks (32, 10) between");
        for (int b = 0; b < 256; b++) {
            boolean blank = b == 32 || b == 10;
            check.faultAt(blank ? 0 : 1, b == '}' ? 10 : 9, "class a {" + (char) b + "}");
        }
        check.fine("class a{}");
        check.fine("class a{int x;int r[2];kept x==r[0];member m(p in 0..1)needs p;pure;{return-p;}}");
        check.fine(" \n \nclass\n\n\na   {\n} \n\n ");
        check.fault(1, "^classa{}");
        check.fault(1, "class a{^intx;}");
    }

    private static void words() {
        check.sentence("WORDS (a small letter, then small letters, digits, _ : as many as there are");
        for (int b = 0; b < 256; b++) {
            boolean letter = b >= 'a' && b <= 'z';
            boolean blank = b == 32 || b == 10;
            boolean within = letter || (b >= '0' && b <= '9') || b == '_';
            check.faultAt(letter || blank ? 0 : 1, 6, "class " + (char) b + "x { }");
            check.faultAt(within ? 0 : 1, blank || b == '{' ? 8 : 7, "class a" + (char) b + "x { }");
        }
    }

    private static void wordLetters() {
        check.sentence("WORDS .. 12 at most");
        check.fine("class abcdefghijk { }");
        check.fine("class abcdefghijkl { }");
        check.fault(1, "class ^abcdefghijklm { }");
        check.fault(1, "class ^" + "a".repeat(3900) + " { }");
        check.fine("class abcdefghijkl { } class abcdefghijkk { } class abcdefghijk { } class bbcdefghijkl { }");
        check.fault(2, "class abcdefghijkl { } class ^abcdefghijkl { }");
        check.fine("class z99999999999 { } class z__________9 { } class z9999999999_ { }");
        for (String at : new String[] {"int %s;", "int %s[2];", "member %s() { }", "member m(%s in 0 .. 1) { }", "member m() throws %s; { }", "member m() { throw %s; }", "member m() { let %s = 1; }"}) {
            check.fine("class a { " + at.formatted("abcdefghijkl") + " }");
            check.fault(1, "class a { " + at.formatted("^abcdefghijklm") + " }");
        }
        for (String word : new String[] {"abcdefghijk", "abcdefghijkl", "z_9", "a"}) {
            TrialGarden g = check.ran("class a { member m() { throw " + word + "; } }", "m0 0.0", 3);
            check.same("it is told whole", Check.thrown(g), word);
            check.is("and no more", g.thrown(word.length()), -1);
        }
    }

    private static void numbers() {
        check.sentence("NUMBERS (digits, as many as there are, 9 at most)");
        String[] fine = {"0", "9", "99999999", "999999999", "000000000", "000000007"};
        for (String number : fine) {
            TrialGarden g = check.ran("class a { int x = " + number + "; member m() { return " + number + "; } }", "m0 0.0", 0);
            check.is("as a first number", g.cell(0, 0), Integer.parseInt(number));
            check.is("in an ex", g.told(1, 5), Integer.parseInt(number));
        }
        for (String number : new String[] {"1000000000", "0000000000", "0000000007", "9".repeat(3000)}) {
            check.fault(1, "class a { int x = ^" + number + "; }");
            check.fault(1, "class a { kept ^" + number + "; }");
            check.fault(1, "class a { int r[^" + number + "]; }");
        }
        check.fault(1, "class a { int x = 1^/; }");
        check.fault(1, "class a { int x = 1^:; }");
        check.fault(1, "class a { int x = 1^_; }");
        check.fault(1, "class a { int x = 1^a; }");
        check.fault(1, "class a { int x = 12 ^3; }");
    }

    private static void signs() {
        check.sentence("signs, the longest");
        for (String sign : new String[] {"<=", ">=", "==", "!=", "&&", "||"}) {
            check.fine("class a { int x; kept x" + sign + "1; }");
        }
        for (String apart : new String[] {"< ^=", "> ^=", "^= =", "^! =", "^& &", "^| |", "<^<", ">^>", "<^>", "^=>", "^=<", "^=!", "^&", "^|", "^&|"}) {
            check.fault(1, "class a { int x; kept x" + apart + "1; }");
        }
        for (String more : new String[] {"==^=", "<=^=", ">=^=", "!=^=", "&&^&", "||^|", "^!!=", "<=^<"}) {
            check.fault(1, "class a { int x; kept x" + more + "1; }");
        }
        check.fine("class a { int x; kept x<-1; kept x<!1; kept x!=!1; kept x!=-1; kept !!x; kept x==-1; kept x&&!1; }");
        check.fine("class a { member m(p in 0..1) { } }");
        check.fault(1, "class a { member m(p in 0^. .1) { } }");
        check.fault(1, "class a { member m(p in 0..^.1) { } }");
        check.fault(1, "class a { member m(p in 0^.1) { } }");
        check.fine("class a { int x=-1; }");
        check.fault(1, "class a { int x^==1; }");
        TrialGarden g = check.ran("class a { int x; member m() { x=-3; return x<-1; } }", "m0 0.0", 0);
        check.is("< and -", g.told(1, 5), 1);
        check.is("= and -", g.cell(0, 0), -3);
    }

    private static void tokens() {
        check.sentence("TOKENS .. At most 1200.");
        check.fine(Texts.ofTokens(1199, 2, "} }"));
        check.fine(Texts.ofTokens(1200, 2, "} }"));
        check.fine(Texts.ofTokens(1200, 2, "} }") + " \n ");
        check.fault(4, Texts.ofTokens(1201, 2, "} ^}"));
        check.fault(4, Texts.ofTokens(1202, 2, "^} }"));
    }

    private static void textGrammar() {
        check.sentence("text = class {class}.");
        check.fault(1, "^");
        check.fault(1, " \n ^");
        TrialGarden g = new TrialGarden();
        check.is("one", Check.tell(g, "class a { }"), 1);
        check.is("two", Check.tell(g, "class a { } class b { }"), 2);
        check.fault(1, "class a { } ^}");
        check.fault(1, "class a { } ^int x;");
        check.fault(1, "^int x; class a { }");
    }

    private static void classGrammar() {
        check.sentence("class = \"class\" NAME [\"above\" NAME] \"{\" {field} {\"kept\" ex \";\"} {member} \"}\".");
        check.fine("class a { int x; kept x; member m() { } }");
        check.fine("class a { } class b above a { int x; int y; kept x; kept y; member m() { } member n() { } }");
        check.fault(1, "class a { } class b above a ^above a { }");
        check.fault(1, "class a { } class b above ^{ }");
        check.fault(1, "class a { } class b above ^5 { }");
        check.fault(1, "class a { } class b above ^int { }");
        check.fault(1, "class a { kept 1; ^int x; }");
        check.fault(1, "class a { member m() { } ^int x; }");
        check.fault(1, "class a { member m() { } ^kept 1; }");
        check.fault(1, "class a { kept ^; }");
        check.fault(1, "class a { kept 1 ^}");
        check.fault(1, "class a ^");
        check.fault(1, "class a { ^");
        check.fault(1, "class a { ^class b { } }");
    }

    private static void numGrammar() {
        check.sentence("field = \"int\" NAME [\"[\" NUMBER \"]\"] [\"=\" num] \";\". num = [\"-\"] NUMBER.");
        int[] due = {0, 0, 0, -5, -5, 999999999, -999999999};
        String[] first = {"", "= 0", "= -0", "= -5", "= - 5", "= 999999999", "= -999999999"};
        for (int i = 0; i < due.length; i++) {
            TrialGarden g = check.ran("class a { int x " + first[i] + "; int r[2] " + first[i] + "; }", "m0", 0);
            for (int k = 0; k < 3; k++) {
                check.is("CELL " + k + " with " + first[i], g.cell(0, k), due[i]);
            }
        }
        check.fault(1, "class a { int x = ^; }");
        check.fault(1, "class a { int x = -^; }");
        check.fault(1, "class a { int x = -^-5; }");
        check.fault(1, "class a { int x = ^+5; }");
        check.fault(1, "class a { int x = 5 ^+ 1; }");
        check.fault(1, "class a { int x = ^(5); }");
        check.fault(1, "class a { int x = 1 ^= 1; }");
        check.fault(1, "class a { int r[^]; }");
        check.fault(1, "class a { int r[^-1]; }");
        check.fault(1, "class a { int r[1 ^1]; }");
        check.fault(1, "class a { int r[2] ^[2]; }");
        check.fault(1, "class a { int x^, y; }");
        check.fault(1, "class a { int ^; }");
    }

    private static void paramGrammar() {
        check.sentence("member = \"member\" NAME \"(\" [param {\",\" param}] \")\" {mark} block. param = NAME \"in\" num \"..\" num.");
        check.fine("class a { member m() { } }");
        check.fine("class a { member m(p in -1 .. 1) { } }");
        check.fine("class a { member m(p in - 1 .. - 1, q in 0 .. 0, r in 0 .. 1) { } }");
        check.fault(1, "class a { member m(^, p in 0 .. 1) { } }");
        check.fault(1, "class a { member m(p in 0 .. 1, ^) { } }");
        check.fault(1, "class a { member m(p in 0 .. 1 ^q in 0 .. 1) { } }");
        check.fault(1, "class a { member m(p ^, q in 0 .. 1) { } }");
        check.fault(1, "class a { member m(p in 0 ^) { } }");
        check.fault(1, "class a { member m(p in -^-1 .. 1) { } }");
        check.fault(1, "class a { member m(p in 0 .. 1 ^.. 2) { } }");
        check.fault(1, "class a { member m ^{ } }");
        check.fault(1, "class a { member m() ^}");
        check.fault(1, "class a { member m() { } ^{ } }");
    }

    private static void markGrammar() {
        check.sentence("mark = \"needs\" ex \";\" | \"gives\" ex \";\" | \"throws\" WORD [\"when\" ex] \";\" | \"only\" NAME {\",\" NAME} \";\" | \"pure\" \";\".");
        String head = "class a { int x; int y; member m() ";
        check.fine(head + "{ } }");
        check.fine(head + "needs 1; gives 1; throws w; throws w when 1; only x; { } }");
        check.fine(head + "only x, y; { } }");
        check.fine(head + "only x, x, y, x; { } }");
        check.fine(head + "pure; { } }");
        check.fault(1, head + "needs ^; { } }");
        check.fault(1, head + "gives 1 ^{ } }");
        check.fault(1, head + "throws ^; { } }");
        check.fault(1, head + "throws w when ^; { } }");
        check.fault(1, head + "throws w ^1; { } }");
        check.fault(1, head + "throws w^, v; { } }");
        check.fault(1, head + "only ^; { } }");
        check.fault(1, head + "only x, ^; { } }");
        check.fault(1, head + "only x ^y; { } }");
        check.fault(1, head + "pure ^x; { } }");
        check.fault(1, head + "pure ^{ } }");
        check.fault(1, head + "^kept 1; { } }");
    }

    private static void stGrammar() {
        check.sentence("block = \"{\" {st} \"}\". st = .. \"if\" ex block [\"else\" block] ..");
        inMember(0, "");
        inMember(0, "x = 1;");
        inMember(1, "^;");
        inMember(1, "x = 1; ^;");
        inMember(1, "x = 1 ^}");
        inMember(0, "if 1 { }");
        inMember(0, "if 1 { } else { }");
        inMember(1, "if 1 { } else { } ^else { }");
        inMember(1, "^else { }");
        inMember(1, "if 1 { } else ^if 1 { }");
        inMember(1, "if 1 ^x = 1;");
        inMember(1, "while 1 { } ^else { }");
        inMember(1, "if ^{ }");
        inMember(1, "return ^;");
        inMember(1, "throw ^;");
        inMember(1, "throw w ^w;");
        inMember(1, "let z2 ^;");
        inMember(1, "x ^;");
        inMember(1, "m() ^= 1;");
        inMember(1, "r[1] ^;");
        inMember(1, "^1;");
        inMember(1, "^-x;");
        inMember(1, "^(m());");
        inMember(1, "above^;");
        inMember(1, "above.m ^= 1;");
        inMember(1, "above.^5();");
        inMember(1, "above.^let();");
        inMember(1, "return above.m ^1;");
        inMember(1, "return above.^5();");
    }

    private static void exGrammar() {
        check.sentence("ex by || , && , == != < <= > >= , + - , * / % , from the loosest on, each from the left");
        String[] ex = {"1 || 0 && 0", "(1 || 0) && 0", "0 && 0 || 1", "2 && 1 == 2", "(2 && 1) == 2", "1 + 1 == 2", "1 + (1 == 2)", "3 == 3 == 3", "3 == (3 == 3)", "5 > 4 > 0", "1 - 2 - 3",
            "1 - (2 - 3)", "2 + 3 * 4", "(2 + 3) * 4", "24 / 4 / 2", "24 / (4 / 2)", "7 % 4 * 2", "7 * 4 % 3", "7 * (4 % 3)", "1 < 2 == 1", "2 - 1 < 1", "1 || 1 / 0", "2 != 1 == 0", "1 - 2 + 3"};
        int[] due = {1, 0, 1, 0, 0, 1, 1, 0, 0, 1, -4, 2, 14, 20, 3, 12, 6, 1, 7, 1, 0, 1, 0, 2};
        for (int i = 0; i < ex.length; i++) {
            check.is(ex[i], value(ex[i]), due[i]);
        }
    }

    private static int value(String ex) {
        return check.ran("class a { int x = 3; member m() { return " + ex + "; } }", "m0 0.0", 0).told(1, 5);
    }

    private static void signsAhead() {
        check.sentence("then - ! ahead (any number of them)");
        int minus = 3;
        int not = 3;
        for (int n = 0; n <= 11; n++) {
            check.is(n + " times -", value(Texts.times(n, "-") + "x"), minus);
            check.is(n + " times !", value(Texts.times(n, "! ") + "x"), not);
            minus = -minus;
            not = not == 0 ? 1 : 0;
        }
        check.is("- binds faster than *", value("2 * -x * 2"), -12);
        check.is("! binds faster than +", value("!x + 1"), 1);
        check.is("- and ! of both sides", value("-x - -x + !-!x"), 1);
    }

    private static void quoted() {
        check.sentence("NAMES and the WORDS of throws, throw are WORDS but those quoted here.");
        for (String word : QUOTED) {
            for (String near : new String[] {word, word + "x", word.substring(0, word.length() - 1), word + "_", word + "0"}) {
                boolean name = !QUOTED.contains(near);
                for (String at : new String[] {"class %s { }", "class b { int %s; }", "class b { member %s() { } }", "class b { member m(%s in 0 .. 1) { } }", "class b { member m() throws %s; { } }",
                    "class b { member m() { throw %s; } }", "class b { member m() { let %s = 1; } }"}) {
                    check.faultAt(name ? 0 : 1, at.indexOf('%'), at.formatted(near));
                }
            }
        }
        for (String word : new String[] {"zero", "index", "text", "field", "num", "param", "mark", "block", "st", "place", "call", "ex"}) {
            check.fine("class " + word + " { int " + word + "; member " + word + "() throws " + word + "; { throw " + word + "; } }");
        }
    }

    private static void classAbove() {
        check.sentence("A class ABOVE is one told ahead.");
        check.fine("class a { } class b above a { } class c above a { } class d above c { }");
        check.fault(2, "class a above ^a { }");
        check.fault(2, "class b { } class a above ^a { }");
        check.fault(2, "class b above ^a { } class a { }");
        check.fault(2, "class a { } class b above ^aa { }");
    }

    private static void hasFields() {
        check.sentence("A class HAS its fields and those above");
        TrialGarden g = check.garden("class a { int x; } class b above a { int y; kept x == y; } class c above b { int z[3]; kept x + y + z[2] == 0; } class d { int w; }");
        int[][] due = {{1, 1}, {2, 2}, {3, 5}, {1, 1}};
        for (int c = 0; c < due.length; c++) {
            check.is("fields of " + c, g.about(c, 1), due[c][0]);
            check.is("CELLS of " + c, g.about(c, 2), due[c][1]);
        }
        check.fault(2, "class a { int x; } class b above a { int y; } class d { kept ^x; }");
        check.fault(2, "class a { int x; kept ^y; } class b above a { int y; }");
        check.fault(2, "class a { int x; } class b above a { int y; } class c above a { kept ^y; }");
    }

    private static void hasMembers() {
        check.sentence("its members and those above that it doesn't tell itself (that OVERRIDES)");
        TrialGarden g = check.garden("class a { member m() { } member n() { } } class b above a { member n() { } } class c above b { member o() { } member m() { } } class d { member m() { } }");
        int[][] due = {{0, 0}, {0, 1}, {2, 1, 2}, {3}};
        for (int c = 0; c < due.length; c++) {
            check.is("members of " + c, g.about(c, 3), due[c].length);
            for (int m = 0; m < due[c].length; m++) {
                check.is("who tells member " + m + " of " + c, g.member(c, m, 0), due[c][m]);
            }
        }
    }

    private static void places() {
        check.sentence("A place is a field that the class has, a param, or a LOCAL ..: a ROW (a field with [ ]) with [ ], all else without.");
        inMember(0, "let l = 1; x = 1; r[0] = 1; z = 1; l = 1; return x + r[0] + z + l;");
        inMember(5, "^x[0] = 1;");
        inMember(5, "^r = 1;");
        inMember(5, "^z[0] = 1;");
        inMember(5, "let l = 1; ^l[0] = 1;");
        inMember(5, "return ^x[0];");
        inMember(5, "return ^r;");
        inMember(5, "return ^z[0];");
        inMember(5, "let l = 1; return ^l[0];");
        check.fine("class a { int r[1]; kept r[0]; }");
        check.fault(5, "class a { int r[1]; kept ^r; }");
        check.fault(5, "class a { int r; kept ^r[0]; }");
    }

    private static void locals() {
        check.sentence("a LOCAL (let; from there to the end of its block)");
        inMember(2, "^l = 1; let l = 1;");
        inMember(2, "return ^l; let l = 1;");
        inMember(0, "let l = l + 1; return l;");
        inMember(0, "let l = 1; if l { l = 2; while l { l = 0; } } else { return l; } return l;");
        inMember(0, "if 1 { let l = 1; return l; }");
        inMember(2, "if 1 { let l = 1; } return ^l;");
        inMember(2, "if 1 { let l = 1; } else { return ^l; }");
        inMember(2, "while 1 { let l = 1; } ^l = 1;");
        inMember(2, "if 1 { if 1 { let l = 1; } return ^l; }");
        check.fault(2, "class a { member m() { let l = 1; } member n() { return ^l; } }");
        check.fault(2, "class a { member m() { let l = 1; } } class b above a { member n() { return ^l; } }");
    }

    private static void calls() {
        check.sentence("A call is of a member that the class has, told ahead or being told");
        check.fine("class a { member f() { } member g() { f(); return f(); } }");
        check.fine("class a { member g() { g(); return g(); } }");
        check.fault(2, "class a { member g() { ^h(); } member h() { } }");
        check.fault(2, "class a { member g() { return ^h(); } member h() { } }");
        check.fine("class a { member f() { } } class b above a { } class c above b { member g() { f(); } member f() { } }");
        check.fault(2, "class a { member f() { } } class b { member g() { ^f(); } }");
        check.fault(2, "class a { kept ^g(); member g() pure; { } }");
        check.fine("class a { member g() pure; { } } class b above a { kept g(); member g() pure; { } }");
        check.fine("class a { member g() pure; gives g(); { } }");
        check.fault(2, "class a { member f() gives ^g(); { } member g() pure; { } }");
    }

    private static void callsAbove() {
        check.sentence("with above. of one that the class above has");
        String above = "class a { member f() { } } class b above a { member g() { } } class c above b { member h() { } ";
        check.fine(above + "member f() { above.f(); return above.f(); } }");
        check.fine(above + "member g() { above.g(); return above.f() + above.g(); } }");
        check.fault(2, above + "member i() { above.^h(); } }");
        check.fault(2, above + "member i() { return above.^h(); } }");
        check.fault(2, above + "member i() { above.^i(); } }");
        check.fault(5, "class a { member f() { ^above.f(); } }");
        check.fault(5, "class a { member f() { return ^above.f(); } }");
    }

    private static void givesAlone() {
        check.sentence("old( ) and result stand in gives alone (SYNTAX elsewhere; old of a field)");
        for (String asked : new String[] {"old(x)", "old(r[0])", "result"}) {
            check.fine("class a { int x; int r[2]; member m() gives 1; gives " + asked + "; { } }");
            for (String at : new String[] {"kept %s; member m() { }", "member m() needs %s; { }", "member m() throws w when %s; { }", "member m() { return %s; }", "member m() { x = 1 + %s; }",
                "member m() { if %s { } }", "member m() { while %s { } }", "member m() { let l = %s; }", "member m() { r[%s] = 1; }", "member m() { m(); m(); } member n() gives result; needs %s; { }"}) {
                check.fault(1, "class a { int x; int r[2]; " + at.formatted("^" + asked) + " }");
            }
        }
        check.fault(1, "class a { member m() gives result; { return ^result; } }");
        check.fault(5, "class a { member m(p in 0 .. 1) gives old(^p); { } }");
        check.fault(1, "class a { member m(p in 0 .. 1) gives old(^1); { } }");
        check.fault(1, "class a { int x; member m() gives old(x ^+ 1); { } }");
        check.fault(1, "class a { member m() gives result^(); { } }");
        check.fault(1, "class a { member m() gives old^; { } }");
    }

    private static void marksSee() {
        check.sentence("params not in kept; LOCALS in no mark");
        check.fine("class a { int p; kept p; member m(q in 0 .. 1) needs q; gives q; throws w when q; { } }");
        check.fault(2, "class a { kept ^p; member m(p in 0 .. 1) { } }");
        check.fault(2, "class a { member m(p in 0 .. 1) { } } class b above a { kept ^p; }");
        check.fault(2, "class a { member m(p in 0 .. 1) { } member n() needs ^p; { } }");
        for (String mark : new String[] {"needs ^l;", "gives ^l;", "throws w when ^l;"}) {
            check.fault(2, "class a { member m() " + mark + " { let l = 1; } }");
            check.fault(2, "class a { member m() { let l = 1; } member n() " + mark + " { } }");
        }
        check.fault(2, "class a { member m(p in 0 .. 1) only ^p; { } }");
    }

    private static void pureCalls() {
        check.sentence("Calls in kept and marks are of PURE members.");
        String two = "class a { member f() pure; { } member g() { } } class b above a { ";
        check.fine(two + "kept f(); member m() needs f(); gives f(); throws w when f() && above.f(); { g(); return g(); } }");
        for (String at : new String[] {"kept %s; member m() { }", "member m() needs %s; { }", "member m() gives %s; { }", "member m() throws w when %s; { }", "member m() needs 1 + f() * %s; { }"}) {
            check.fault(5, two + at.formatted("^g()") + " }");
            check.fault(5, two + at.formatted("above.^g()") + " }");
            check.fine(two + at.formatted("above.f()") + " }");
        }
        check.fine(two + "member g() pure; { } member m() needs g(); { } }");
        check.fault(5, two + "member g() pure; { } member m() needs above.^g(); { } }");
        check.fault(5, "class a { member m() needs ^m(); pure; { } }");
        check.fine("class a { member m() pure; needs m(); { } }");
    }

    private static void inMember(int kind, String st) {
        check.fault(kind, Texts.inMember(st));
    }
}
