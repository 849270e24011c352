import java.util.ArrayList;
import java.util.List;

/** The grammar of the document read once more, plainly: by recursion into trees, FAULTS as exceptions. */
final class NaiveText {
    static final class Fault extends RuntimeException {
        final int kind;
        final int place;

        Fault(int kind, int place) {
            super(null, null, false, false);
            this.kind = kind;
            this.place = place;
        }
    }

    static final class Token {
        String kind;
        String word;
        int place;
    }

    static final class Field {
        String name;
        int size;
        int first;
    }

    static final class Toy {
        int number;
        String name;
        Toy above;
        int model = -1;
        final List<Field> fields = new ArrayList<>();
        final List<Member> members = new ArrayList<>();
        final List<Mark> kept = new ArrayList<>();

        Field field(String name) {
            return fields.stream().filter(f -> f.name.equals(name)).findFirst().orElse(null);
        }

        Member member(String name) {
            return members.stream().filter(m -> m.name.equals(name)).findFirst().orElse(null);
        }

        int cells() {
            return fields.stream().mapToInt(f -> Math.max(f.size, 1)).sum();
        }
    }

    static final class Mark {
        String kind;
        int toy;
        int place;
        Tree ex;
        String word;
        List<String> fields = new ArrayList<>();
    }

    static final class Member {
        String name;
        Toy toy;
        int place;
        boolean pure;
        Member over;
        final List<String> params = new ArrayList<>();
        final List<int[]> ranges = new ArrayList<>();
        final List<Mark> marks = new ArrayList<>();
        List<St> body = new ArrayList<>();
        final List<St> all = new ArrayList<>();
    }

    static final class St {
        String kind;
        String name;
        boolean begun;
        Tree index;
        Tree ex;
        List<St> block;
        List<St> otherwise = new ArrayList<>();
    }

    /** A PART of an ex: kind num, field, local, row, old, result, un, call, or an operator of two. */
    static final class Tree {
        String kind;
        String name;
        int number;
        int height = 1;
        Member told;
        final List<Tree> parts = new ArrayList<>();
    }

    private static final List<String> QUOTED = List.of(("class above int kept member in needs gives throws when only pure "
        + "let if else while return throw old result size").split(" "));
    private static final List<String> SIGNS = List.of(".. == != <= >= && || ( ) { } [ ] , ; . = < > + - * / % !".split(" "));
    private static final String[][] LEVELS = {{"||"}, {"&&"}, {"==", "!=", "<", "<=", ">", ">="}, {"+", "-"}, {"*", "/", "%"}};

    final List<Toy> toys = new ArrayList<>();
    int parts = 0;
    private final List<Token> tokens = new ArrayList<>();
    private int at = 0;
    private Toy toy;
    private Member member;
    private final List<String> params = new ArrayList<>();
    private final List<String> locals = new ArrayList<>();
    private String asking;
    private int blocks;
    private int open;

    NaiveText(String text) {
        takeApart(text);
        do {
            readClass();
        } while (at("class"));
        if (!at("end")) {
            throw syntax();
        }
    }

    private void takeApart(String text) {
        int p = 0;
        while (true) {
            while (p < text.length() && (text.charAt(p) == ' ' || text.charAt(p) == '\n')) {
                p++;
            }
            Token token = new Token();
            tokens.add(token);
            token.place = p;
            int q = p;
            if (p == text.length()) {
                token.kind = "end";
                return;
            }
            if (text.substring(p, p + 1).matches("[a-z]")) {
                while (q < text.length() && text.substring(q, q + 1).matches("[a-z0-9_]")) {
                    q++;
                }
                token.word = text.substring(p, q);
                token.kind = q - p > 12 ? "wrong" : QUOTED.contains(token.word) ? token.word : "NAME";
            } else if (text.substring(p, p + 1).matches("[0-9]")) {
                while (q < text.length() && text.substring(q, q + 1).matches("[0-9]")) {
                    q++;
                }
                token.word = text.substring(p, q);
                token.kind = q - p > 9 ? "wrong" : "NUMBER";
            } else {
                token.kind = "wrong";
                for (int i = SIGNS.size() - 1; i >= 0; i--) {
                    if (text.startsWith(SIGNS.get(i), p)) {
                        token.kind = SIGNS.get(i);
                        q = p + token.kind.length();
                    }
                }
            }
            if (token.kind.equals("wrong")) {
                return;
            }
            p = q;
        }
    }

    private Token now() {
        return tokens.get(at);
    }

    private boolean at(String kind) {
        return now().kind.equals(kind);
    }

    private Fault syntax() {
        return new Fault(1, now().place);
    }

    /** Takes a TOKEN of this kind, if none of these KINDS of FAULT is with it: the least of them is told. */
    private Token take(String kind, boolean naming, boolean range, boolean room, boolean sort, boolean arguments) {
        if (!at(kind)) {
            throw syntax();
        }
        boolean[] wrong = {naming, range, room || at >= 1200, sort, arguments};
        for (int i = 0; i < wrong.length; i++) {
            if (wrong[i]) {
                throw new Fault(2 + i, now().place);
            }
        }
        at++;
        return tokens.get(at - 1);
    }

    private Token take(String kind) {
        return take(kind, false, false, false, false, false);
    }

    private Token takeRoom(String kind, boolean room) {
        return take(kind, false, false, room, false, false);
    }

    private void readClass() {
        take("class");
        toy = new Toy();
        toy.number = toys.size();
        String word = now().word;
        toy.name = take("NAME", toys.stream().anyMatch(t -> t.name.equals(word)), false, toys.size() >= 8, false, false).word;
        if (at("above")) {
            take("above");
            String upper = now().word;
            toy.above = toys.stream().filter(t -> t.name.equals(upper)).findFirst().orElse(null);
            take("NAME", toy.above == null, false, false, false, false);
            toy.fields.addAll(toy.above.fields);
            toy.members.addAll(toy.above.members);
        }
        take("{");
        while (at("int")) {
            readField();
        }
        while (at("kept")) {
            takeRoom("kept", toy.kept.size() >= 8);
            toy.kept.add(readCondition("kept"));
            take(";");
        }
        while (at("member")) {
            readMember();
        }
        take("}");
        toys.add(toy);
    }

    private void readField() {
        take("int");
        Field field = new Field();
        Token name = take("NAME", toy.field(now().word) != null, false, toy.fields.size() >= 10, false, false);
        field.name = name.word;
        if (at("[")) {
            take("[");
            int size = at("NUMBER") ? Integer.parseInt(now().word) : 0;
            take("NUMBER", false, size < 1 || size > 8, toy.cells() + size > 24, false, false);
            field.size = size;
            take("]");
        } else if (toy.cells() + 1 > 24) {
            throw new Fault(4, name.place);
        }
        if (at("=")) {
            take("=");
            field.first = readNumber(Integer.MIN_VALUE);
        }
        take(";");
        toy.fields.add(field);
    }

    private int readNumber(int least) {
        int sign = 1;
        if (at("-")) {
            take("-");
            sign = -1;
        }
        int number = at("NUMBER") ? sign * Integer.parseInt(now().word) : 0;
        take("NUMBER", false, number < least, false, false, false);
        return number;
    }

    private boolean isThere(String name) {
        return toy.field(name) != null || params.contains(name) || locals.contains(name);
    }

    /** Whether the NAME here isn't there: as a member with ( behind, else as a field, param or LOCAL. */
    private boolean isMissing() {
        String word = now().word;
        return tokens.get(at + 1).kind.equals("(") ? toy.member(word) == null : !isThere(word);
    }

    private void readMember() {
        take("member");
        member = new Member();
        Member over = at("NAME") ? toy.member(now().word) : null;
        Token name = take("NAME", over != null && over.toy == toy, false, over == null && toy.members.size() >= 12, false, false);
        member.name = name.word;
        member.place = name.place;
        member.toy = toy;
        member.over = over;
        if (over == null) {
            toy.members.add(member);
        } else {
            toy.members.set(toy.members.indexOf(over), member);
        }
        take("(");
        boolean more = !at(")");
        while (more) {
            String param = take("NAME", isThere(now().word), false, params.size() >= 3, false, false).word;
            take("in");
            int low = readNumber(Integer.MIN_VALUE);
            take("..");
            int high = readNumber(low);
            params.add(param);
            member.params.add(param);
            member.ranges.add(new int[] {low, high});
            more = at(",");
            if (more) {
                take(",");
            }
        }
        take(")", false, false, false, over != null && over.params.size() != params.size(), false);
        readMarks();
        blocks = 0;
        member.body = readBlock(over != null && over.pure && !member.pure);
        params.clear();
        locals.clear();
        member = null;
    }

    private void readMarks() {
        boolean narrowed = false;
        while (at("needs") || at("gives") || at("throws") || at("only") || at("pure")) {
            String kind = now().kind;
            boolean narrows = at("only") || at("pure");
            take(kind, false, false, member.marks.size() >= 8, narrows && narrowed, false);
            narrowed |= narrows;
            Mark mark = new Mark();
            if (kind.equals("needs") || kind.equals("gives")) {
                mark = readCondition(kind);
            } else if (kind.equals("throws")) {
                String word = take("NAME").word;
                if (at("when")) {
                    take("when");
                    mark = readCondition("when");
                }
                mark.word = word;
            } else if (kind.equals("only")) {
                boolean more = true;
                while (more) {
                    mark.fields.add(take("NAME", toy.field(now().word) == null, false, false, false, false).word);
                    more = at(",");
                    if (more) {
                        take(",");
                    }
                }
            } else {
                member.pure = true;
            }
            mark.kind = kind;
            member.marks.add(mark);
            take(";");
        }
    }

    private Mark readCondition(String kind) {
        Mark mark = new Mark();
        mark.kind = kind;
        mark.toy = toy.number;
        mark.place = now().place;
        asking = kind;
        mark.ex = readEx();
        asking = null;
        return mark;
    }

    private List<St> readBlock(boolean sort) {
        take("{", false, false, blocks >= 8, sort, false);
        blocks++;
        int had = locals.size();
        List<St> block = new ArrayList<>();
        while (!at("}")) {
            block.add(readStatement());
        }
        take("}");
        blocks--;
        locals.subList(had, locals.size()).clear();
        return block;
    }

    private St readStatement() {
        St st = new St();
        st.kind = now().kind;
        if (!List.of("let", "NAME", "if", "while", "return", "throw", "above").contains(st.kind)) {
            throw syntax();
        }
        boolean full = member.all.size() >= 40;
        member.all.add(st);
        if (st.kind.equals("above")) {
            st.ex = readAbove(true, full);
            take(";");
            return st;
        }
        Token first = take(st.kind, at("NAME") && isMissing(), false, full, false, false);
        switch (st.kind) {
            case "let":
                st.name = take("NAME", isThere(now().word), false, locals.size() >= 8, false, false).word;
                locals.add(st.name);
                take("=");
                st.ex = readEx();
                take(";");
                break;
            case "if": case "while":
                st.ex = readEx();
                st.block = readBlock(false);
                if (st.kind.equals("if") && at("else")) {
                    take("else");
                    st.otherwise = readBlock(false);
                }
                break;
            case "return":
                st.ex = readEx();
                take(";");
                break;
            case "throw":
                st.name = take("NAME").word;
                take(";");
                break;
            default:
                readNamed(st, first);
                break;
        }
        return st;
    }

    private void readNamed(St st, Token first) {
        st.name = first.word;
        if (at("(")) {
            Member called = findMember(toy, first);
            st.kind = "call";
            st.ex = new Tree();
            st.ex.kind = "call";
            st.ex.name = first.word;
            readArguments(st.ex, called, true);
        } else {
            st.kind = "set";
            boolean row = isRow(first, false);
            if (row) {
                take("[");
                st.index = readEx();
                take("]");
            }
            take("=");
            st.block = new ArrayList<>();
            st.otherwise = toy.field(first.word) == null ? null : st.otherwise;
            st.ex = readEx();
        }
        take(";");
    }

    private Member findMember(Toy of, Token name) {
        Member found = of.member(name.word);
        if (found == null) {
            throw new Fault(2, name.place);
        }
        if (asking != null && !found.pure) {
            throw new Fault(5, name.place);
        }
        return found;
    }

    /** Whether a place is a ROW's, once the TOKEN behind its NAME is seen. */
    private boolean isRow(Token name, boolean old) {
        if (!isThere(name.word)) {
            throw new Fault(2, name.place);
        }
        Field field = toy.field(name.word);
        boolean row = field != null && field.size > 0;
        if ((old && field == null) || row != at("[")) {
            throw new Fault(5, name.place);
        }
        return row;
    }

    private void openBracket(String kind) {
        takeRoom(kind, open >= 40);
        open++;
    }

    private void readArguments(Tree call, Member called, boolean st) {
        int bracket = now().place;
        if (st) {
            take("(");
        } else {
            openBracket("(");
        }
        int params = called.params.size();
        if (params == 0 && !at(")")) {
            throw new Fault(6, bracket);
        }
        boolean more = !at(")");
        while (more) {
            call.parts.add(st ? readEx() : readLevel(0));
            more = at(",");
            if (more) {
                take(",", false, false, false, false, call.parts.size() >= params);
            }
        }
        take(")", false, false, false, false, call.parts.size() < params);
        open -= st ? 0 : 1;
    }

    private Tree readAbove(boolean st, boolean full) {
        take("above", false, false, full, toy.above == null, false);
        take(".");
        Token name = take("NAME", toy.above.member(now().word) == null, false, false, false, false);
        Tree call = new Tree();
        call.kind = "call";
        call.told = findMember(toy.above, name);
        if (!at("(")) {
            throw syntax();
        }
        readArguments(call, call.told, st);
        parts += st ? 0 : 1;
        return st ? call : whole(call, name.place);
    }

    /** A PART that is whole: one over the highest in it. */
    private Tree whole(Tree tree, int place) {
        tree.height = 1 + tree.parts.stream().mapToInt(t -> t.height).max().orElse(0);
        if (tree.height > 12) {
            throw new Fault(7, place);
        }
        return tree;
    }

    private Tree readEx() {
        open = 0;
        return readLevel(0);
    }

    private Tree readLevel(int level) {
        if (level == LEVELS.length) {
            return readSigned();
        }
        Tree left = readLevel(level + 1);
        while (List.of(LEVELS[level]).contains(now().kind)) {
            Token operator = take(now().kind);
            parts++;
            Tree both = new Tree();
            both.kind = operator.kind;
            both.parts.add(left);
            both.parts.add(readLevel(level + 1));
            left = whole(both, operator.place);
        }
        return left;
    }

    private Tree readSigned() {
        if (!at("-") && !at("!")) {
            return readPart();
        }
        Token sign = now();
        openBracket(sign.kind);
        parts++;
        Tree tree = new Tree();
        tree.kind = "un";
        tree.name = sign.kind;
        tree.parts.add(readSigned());
        open--;
        return whole(tree, sign.place);
    }

    private Tree readPart() {
        Token first = now();
        Tree tree = new Tree();
        tree.kind = first.kind;
        switch (first.kind) {
            case "NUMBER":
                take("NUMBER");
                parts++;
                tree.number = Integer.parseInt(first.word);
                return tree;
            case "above":
                return readAbove(false, false);
            case "(":
                openBracket("(");
                tree = readLevel(0);
                take(")");
                open--;
                return tree;
            case "old":
                if (!"gives".equals(asking)) {
                    throw syntax();
                }
                take("old");
                openBracket("(");
                tree.parts.add(readPlace(take("NAME", at("NAME") && !isThere(now().word), false, false, false, false), true));
                take(")");
                open--;
                parts++;
                return whole(tree, first.place);
            case "result":
                if (!"gives".equals(asking)) {
                    throw syntax();
                }
                take("result");
                parts++;
                return tree;
            case "size":
                take("size");
                openBracket("(");
                Field field = at("NAME") ? toy.field(now().word) : null;
                take("NAME", !isThere(now().word), false, false, field == null || field.size == 0, false);
                take(")");
                open--;
                parts++;
                tree.kind = "NUMBER";
                tree.number = field.size;
                return tree;
            default:
                return readName(take("NAME", at("NAME") && isMissing(), false, false, false, false));
        }
    }

    private Tree readName(Token name) {
        if (!at("(")) {
            return readPlace(name, false);
        }
        Tree call = new Tree();
        call.kind = "call";
        call.name = name.word;
        readArguments(call, findMember(toy, name), false);
        parts++;
        return whole(call, name.place);
    }

    private Tree readPlace(Token name, boolean old) {
        Tree tree = new Tree();
        tree.name = name.word;
        if (isRow(name, old)) {
            tree.kind = "row";
            openBracket("[");
            tree.parts.add(readLevel(0));
            take("]");
            open--;
        } else {
            tree.kind = toy.field(name.word) == null ? "local" : "field";
        }
        parts++;
        return whole(tree, name.place);
    }
}
