import java.util.ArrayList;
import java.util.List;
import java.util.Random;

/** Texts that are mostly without a FAULT, texts with some TOKENS changed, texts for which there is no ROOM, and high ones. */
final class RandomText {
    private static final String[] OPERATORS = {"||", "&&", "==", "!=", "<", "<=", ">", ">=", "+", "+", "-", "-", "*", "/", "%"};
    private static final String[] OTHERS = ("class above int kept member in needs gives throws when only pure let if else while return throw old result size "
        + "( ) { } [ ] , ; . .. = == != < <= > >= + - * / % && || ! & # x zz 0 9 1000000000 abcdefghijklm").split(" ");

    private record Member(String name, int params, boolean pure, int toy) { }

    private record Field(String name, int size) { }

    private static final class Toy {
        String name;
        Toy above;
        final List<Field> fields = new ArrayList<>();
        final List<Member> members = new ArrayList<>();
    }

    private final Random random;
    private final List<Toy> toys = new ArrayList<>();
    private Toy toy;
    private List<String> places = new ArrayList<>();
    private String asking;
    private int budget;
    private boolean keepsPure;
    /** Hardly anything is THROWN, SPENT or refused in such a text: what comes late among the verdicts is come to. */
    private boolean calm;

    RandomText(Random random) {
        this.random = random;
    }

    String text() {
        StringBuilder text = new StringBuilder();
        calm = chance(30);
        int n = 1 + random.nextInt(calm ? 5 : 3);
        for (int i = 0; i < n; i++) {
            text.append(aClass(i));
        }
        return text.toString();
    }

    String changed() {
        List<String> parts = parts();
        change(parts);
        return String.join(random.nextBoolean() ? " " : "\n", parts);
    }

    /** A text, changed or not, that goes on beyond 1200 TOKENS or has a member of more than 40 st. */
    String crowded() {
        List<String> parts = parts();
        if (random.nextBoolean()) {
            change(parts);
        }
        List<Integer> blocks = new ArrayList<>();
        for (int i = 1; i < parts.size(); i++) {
            if (parts.get(i).equals("{") && !parts.get(i - 1).matches("c[0-9]+")) {
                blocks.add(i);
            }
        }
        if (blocks.isEmpty() || random.nextBoolean()) {
            return filler(1200 - random.nextInt(parts.size())) + String.join(" ", parts);
        }
        parts.add(one(blocks) + 1, "throw w;".repeat(30 + random.nextInt(11)));
        return String.join(" ", parts);
    }

    private List<String> parts() {
        return new ArrayList<>(List.of(text().replaceAll("([(){}\\[\\],;]|\\.\\.)", " $1 ").trim().split("\\s+")));
    }

    /** A class of about so many TOKENS. */
    private String filler(int tokens) {
        StringBuilder text = new StringBuilder("class filler{int x;");
        int left = tokens - 7;
        for (int i = 0; left > 20; i++) {
            int statements = Math.min(39, (left - 10) / 12);
            text.append("member f").append(i).append("(){").append("x=1+1+1+1+1;".repeat(statements));
            text.append("x=").append("-".repeat(random.nextInt(12))).append("1;}");
            left -= 10 + 12 * statements;
        }
        return text.append("}").toString();
    }

    private void change(List<String> parts) {
        for (int i = 1 + random.nextInt(3); i > 0 && parts.size() > 1; i--) {
            int at = random.nextInt(parts.size());
            switch (random.nextInt(12)) {
                case 0: parts.remove(at); break;
                case 1: parts.add(at, one(parts)); break;
                case 2: parts.set(at, one(parts)); break;
                case 3: parts.set(at, OTHERS[random.nextInt(OTHERS.length)]); break;
                case 4: parts.add(at, OTHERS[random.nextInt(OTHERS.length)]); break;
                default: changeAlike(parts, at); break;
            }
        }
    }

    /** Puts another NAME for a NAME, another sign for a sign: so that not all FAULTS are SYNTAX. */
    private void changeAlike(List<String> parts, int from) {
        String name = "[a-z]+[0-9]+";
        for (int at = from; at < parts.size(); at++) {
            String part = parts.get(at);
            if (part.matches(name)) {
                parts.set(at, one(parts.stream().filter(p -> p.matches(name)).toList()));
                return;
            }
            if (part.matches("[0-9]+") || part.equals("pure")) {
                parts.set(at, part.equals("pure") ? "needs 1" : one(List.of("0", "1", "9", "r", "(1)", "-1")));
                return;
            }
        }
    }

    private <T> T one(List<T> of) {
        return of.get(random.nextInt(of.size()));
    }

    private boolean chance(int percent) {
        return random.nextInt(100) < percent;
    }

    private String aClass(int i) {
        toy = new Toy();
        toy.name = "c" + i;
        asking = null;
        places = new ArrayList<>();
        StringBuilder text = new StringBuilder("class " + toy.name + " ");
        if (!toys.isEmpty() && chance(calm ? 90 : 60)) {
            toy.above = calm ? toys.get(toys.size() - 1) : one(toys);
            toy.fields.addAll(toy.above.fields);
            toy.members.addAll(toy.above.members);
            text.append("above ").append(toy.above.name).append(' ');
        }
        text.append("{ ");
        for (int k = random.nextInt(4); k > 0; k--) {
            Field field = new Field("f" + i + k, chance(35) ? 1 + random.nextInt(4) : 0);
            toy.fields.add(field);
            text.append("int ").append(field.name).append(field.size > 0 ? "[" + field.size + "]" : "").append(chance(50) ? " = " + random.nextInt(5) : "").append("; ");
        }
        for (int k = random.nextInt(3); k > 1; k--) {
            asking = "kept";
            text.append("kept ").append(condition()).append("; ");
        }
        for (int k = random.nextInt(5); k > 0; k--) {
            text.append(member(i, k));
        }
        toys.add(toy);
        return text.append("} ").toString();
    }

    private String member(int i, int k) {
        List<Member> others = toy.members.stream().filter(m -> m.toy != i).toList();
        Member over = others.isEmpty() || chance(calm ? 15 : 40) ? null : one(others);
        String name = over == null ? "m" + i + k : over.name;
        int params = over == null ? random.nextInt(4) : over.params;
        boolean pure = over != null && over.pure || chance(calm ? 10 : 25);
        boolean only = !pure && !toy.fields.isEmpty() && chance(calm ? 80 : 15);
        places = new ArrayList<>();
        StringBuilder text = new StringBuilder("member " + name + "(");
        for (int p = 0; p < params; p++) {
            int low = random.nextInt(7) - 4;
            text.append(p == 0 ? "" : ", ").append("p" + p).append(" in ").append(low).append(" .. ").append(low + random.nextInt(5));
            places.add("p" + p);
        }
        text.append(") ").append(pure ? "pure; " : only ? only() : "");
        Member told = new Member(name, params, pure, i);
        toy.members.removeIf(m -> m == over);
        toy.members.add(told);
        for (int n = random.nextInt(calm ? 2 : 3); n > 0; n--) {
            text.append(mark());
        }
        asking = null;
        budget = 2 + random.nextInt(8);
        keepsPure = pure && chance(80);
        text.append(block(0));
        places = new ArrayList<>();
        return text.toString();
    }

    private String only() {
        StringBuilder text = new StringBuilder("only ").append(one(toy.fields).name);
        for (int n = random.nextInt(5); n > 0; n--) {
            text.append(", ").append(one(toy.fields).name);
        }
        return text.append("; ").toString();
    }

    private String mark() {
        int which = random.nextInt(4);
        asking = which == 0 ? "needs" : which == 1 ? "when" : "gives";
        if (which == 1) {
            String word = new String[] {"zero", "index", "bad", "odd"}[random.nextInt(4)];
            return "throws " + word + (chance(50) ? " when " + condition() : "") + "; ";
        }
        return asking + " " + condition() + "; ";
    }

    private String condition() {
        switch (random.nextInt(calm ? 3 : 5)) {
            case 0: return ex(1) + " || 1";
            case 1: return ex(1) + " >= -9";
            case 2: return "1";
            default: return ex(random.nextInt(4));
        }
    }

    private String block(int depth) {
        int had = places.size();
        StringBuilder text = new StringBuilder("{ ");
        for (int n = random.nextInt(4); n > 0 && budget > 0; n--) {
            budget--;
            text.append(st(depth));
        }
        text.append(depth == 0 && chance(60) ? "return " + ex(random.nextInt(3)) + "; " : "");
        places.subList(had, places.size()).clear();
        return text.append("} ").toString();
    }

    private String st(int depth) {
        int which = random.nextInt(calm ? 60 : 100);
        if (which < 12) {
            places.add("l" + places.size());
            return "let " + places.get(places.size() - 1) + " = " + ex(1) + "; ";
        }
        if (which < 45) {
            return assignment();
        }
        if (which < 60 && depth < 4) {
            return "if " + ex(1) + " " + block(depth + 1) + (chance(50) ? "else " + block(depth + 1) : "");
        }
        if (which < 68 && depth < 4) {
            return "while " + ex(1) + " " + block(depth + 1);
        }
        if (which < 78) {
            return which < 73 ? "return " + ex(1) + "; " : "throw " + (chance(50) ? "bad" : "odd") + "; ";
        }
        return aCall(1) + "; ";
    }

    private String assignment() {
        if (!toy.fields.isEmpty() && !keepsPure && chance(70)) {
            Field field = one(toy.fields);
            String index = calm ? "" + random.nextInt(Math.max(field.size, 1)) : ex(random.nextInt(2));
            return field.name + (field.size > 0 ? "[" + index + "]" : "") + " = " + ex(2) + "; ";
        }
        return places.isEmpty() ? "return 2; " : one(places) + " = " + ex(2) + "; ";
    }

    /** A call, of a PURE member in a condition; any other PART when there is none. */
    private String aCall(int depth) {
        boolean upper = toy.above != null && chance(30);
        List<Member> members = (upper ? toy.above : toy).members.stream().filter(m -> asking == null || m.pure).toList();
        if (members.isEmpty()) {
            return asking == null ? "throw bad" : leaf();
        }
        Member member = one(members);
        StringBuilder text = new StringBuilder(upper ? "above." : "").append(member.name).append('(');
        for (int k = 0; k < member.params; k++) {
            text.append(k == 0 ? "" : ", ").append(ex(depth - 1));
        }
        return text.append(')').toString();
    }

    private String ex(int depth) {
        if (depth <= 0 || chance(25)) {
            return leaf();
        }
        switch (random.nextInt(8)) {
            case 0: return (chance(50) ? "-" : "!") + ex(depth - 1);
            case 1: return "(" + ex(depth - 1) + ")";
            case 2:
                String call = aCall(depth);
                return call.startsWith("throw") ? leaf() : call;
            default: return ex(depth - 1) + " " + OPERATORS[random.nextInt(OPERATORS.length - (calm ? 2 : 0))] + " " + ex(depth - 1);
        }
    }

    private String leaf() {
        int which = random.nextInt(10);
        if (which < 4 && !toy.fields.isEmpty()) {
            Field field = one(toy.fields);
            String place = field.size == 0 ? field.name : field.name + "[" + (calm || chance(70) || places.isEmpty() ? "" + random.nextInt(field.size + (calm ? 0 : 1)) : one(places)) + "]";
            return "gives".equals(asking) && chance(40) ? "old(" + place + ")" : field.size > 0 && chance(15) ? "size(" + field.name + ")" : place;
        }
        if (which < 7 && !places.isEmpty()) {
            return one(places);
        }
        return which == 7 && "gives".equals(asking) ? "result" : "" + random.nextInt(5);
    }

    /** A text with an ex about as high as may be, or with about as many things open, in which something may be wrong. */
    String deep() {
        String above = "class z { int x; int r[3]; member m() pure; { } member p(q in 0 .. 1) pure; { } member t(a in 0 .. 1, b in 0 .. 1, c in 0 .. 1) pure; { } member i(q in 0 .. 1) { } } class a above z { ";
        switch (random.nextInt(8)) {
            case 0: return above + "kept " + deepEx("kept") + "; }";
            case 1: return above + "member k() needs " + deepEx("needs") + "; { } }";
            case 2: case 3: return above + "member k(v in 0 .. 1) gives " + deepEx("gives") + "; gives " + deepEx("gives") + "; { } }";
            case 4: return above + "member k() { x = " + deepEx(null) + "; return " + deepEx(null) + "; } }";
            case 5: return above + "member k() { r[" + deepEx(null) + "] = " + deepEx(null) + "; } }";
            case 6: return above + "member k() { " + (chance(50) ? "above." : "") + "t(" + deepEx(null) + ", 1, " + deepEx(null) + "); } }";
            default: return above + "member k() { if " + deepEx(null) + " { } while " + deepEx(null) + " { } let l = " + deepEx(null) + "; } }";
        }
    }

    private String deepEx(String inMark) {
        asking = inMark;
        int brackets = chance(25) ? 25 + random.nextInt(17) : 0;
        String inner = high(8 + random.nextInt(5) + (chance(20) ? 1 : 0));
        return "(".repeat(brackets) + inner + ")".repeat(brackets);
    }

    private String high(int height) {
        if (chance(1) && chance(50)) {
            return new String[] {"yy", "r", "x[0]", "i(1)", "i()", "p()", "p(1, 1)", "m(1)", "t(1, 1)", "above.yy()", "size(x)", "1 1", "()"}[random.nextInt(13)];
        }
        if (height <= 1) {
            String[] leaves = {"1", "x", "m()", "above.m()", "size(r)", "0", "result", "old(x)"};
            return leaves[random.nextInt("gives".equals(asking) ? 8 : 6)];
        }
        int less = 1 + random.nextInt(Math.min(height - 1, 4));
        switch (random.nextInt("gives".equals(asking) && height > 2 ? 11 : 10)) {
            case 0: case 1: return (chance(50) ? "-" : "!") + high(height - 1);
            case 2: return "r[" + high(height - 1) + "]";
            case 3: return (chance(30) ? "above." : "") + "p(" + high(height - 1) + ")";
            case 4: return "t(" + high(less) + ", " + high(height - 1) + ", " + high(less) + ")";
            case 5: return "(" + high(height) + ")";
            case 6: return "(" + high(height - 1) + ") " + OPERATORS[random.nextInt(OPERATORS.length)] + " " + high(1);
            case 7: return high(1) + " " + OPERATORS[random.nextInt(OPERATORS.length)] + " (" + high(height - 1) + ")";
            case 8: case 9: return high(height - 1) + " " + OPERATORS[random.nextInt(OPERATORS.length)] + " " + high(less);
            default: return "old(r[" + high(height - 2) + "])";
        }
    }
}
