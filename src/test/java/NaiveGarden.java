import java.util.ArrayList;
import java.util.HashMap;
import java.util.LinkedHashMap;
import java.util.List;
import java.util.Map;

/** What the document promises, written once more as plainly as can be: trees are walked, all is made anew. */
final class NaiveGarden {
    static final class Thrown extends RuntimeException {
        final String word;

        Thrown(String word) {
            super(null, null, false, false);
            this.word = word;
        }
    }

    static final class Stop extends RuntimeException {
        final String why;

        Stop(String why) {
            super(null, null, false, false);
            this.why = why;
        }
    }

    static final class Given extends RuntimeException {
        final int number;

        Given(int number) {
            super(null, null, false, false);
            this.number = number;
        }
    }

    static final class Thing {
        final NaiveText.Toy toy;
        Map<String, int[]> fields = new LinkedHashMap<>();

        Thing(NaiveText.Toy toy) {
            this.toy = toy;
            for (NaiveText.Field field : toy.fields) {
                int[] cells = new int[Math.max(field.size, 1)];
                java.util.Arrays.fill(cells, field.first);
                fields.put(field.name, cells);
            }
        }

        Thing copy() {
            Thing thing = new Thing(toy);
            fields.forEach((name, cells) -> thing.fields.put(name, cells.clone()));
            return thing;
        }

        List<Integer> cells() {
            List<Integer> all = new ArrayList<>();
            for (int[] cells : fields.values()) {
                for (int cell : cells) {
                    all.add(cell);
                }
            }
            return all;
        }

        List<String> names() {
            List<String> all = new ArrayList<>();
            fields.forEach((name, cells) -> {
                for (int i = 0; i < cells.length; i++) {
                    all.add(name);
                }
            });
            return all;
        }
    }

    /** One call of a row, or one condition. */
    static final class Work {
        final Thing thing;
        final Thing old;
        final boolean asking;
        final int result;
        int steps = 0;
        int nested = 0;

        Work(Thing thing, Thing old, boolean asking, int result) {
            this.thing = thing;
            this.old = old;
            this.asking = asking;
            this.result = result;
        }

        void step() {
            steps++;
            if (steps > 300) {
                throw new Stop("SPENT");
            }
        }

        int call(NaiveText.Member member, List<Integer> arguments) {
            nested++;
            if (nested > 20) {
                throw new Stop("SPENT");
            }
            Map<String, Integer> places = new HashMap<>();
            for (int i = 0; i < member.params.size(); i++) {
                places.put(member.params.get(i), arguments.get(i));
            }
            int number = 0;
            try {
                doBlock(member.body, places);
            } catch (Given given) {
                number = given.number;
            }
            nested--;
            return number;
        }

        void doBlock(List<NaiveText.St> block, Map<String, Integer> places) {
            for (NaiveText.St st : block) {
                st.begun = true;
                step();
                switch (st.kind) {
                    case "let":
                        places.put(st.name, 0);
                        places.put(st.name, value(st.ex, places));
                        break;
                    case "set": set(st, places); break;
                    case "if": doBlock(value(st.ex, places) != 0 ? st.block : st.otherwise, places); break;
                    case "while":
                        step();
                        while (value(st.ex, places) != 0) {
                            doBlock(st.block, places);
                            step();
                        }
                        break;
                    case "return": throw new Given(value(st.ex, places));
                    case "throw": throw new Thrown(st.name);
                    default: called(st.ex, places, false); break;
                }
            }
        }

        private void set(NaiveText.St st, Map<String, Integer> places) {
            int[] cells = thing.fields.get(st.name);
            int index = st.index == null ? 0 : value(st.index, places);
            if (st.index != null && (index < 0 || index >= cells.length)) {
                throw new Thrown("index");
            }
            int number = value(st.ex, places);
            if (st.otherwise == null) {
                places.put(st.name, number);
            } else if (asking) {
                throw new Stop("IMPURE");
            } else {
                cells[index] = number;
            }
        }

        private int called(NaiveText.Tree tree, Map<String, Integer> places, boolean counts) {
            List<Integer> arguments = new ArrayList<>();
            for (NaiveText.Tree part : tree.parts) {
                arguments.add(value(part, places));
            }
            if (counts) {
                step();
            }
            return call(tree.told != null ? tree.told : thing.toy.member(tree.name), arguments);
        }

        private int cell(NaiveText.Tree tree, Thing of, Map<String, Integer> places) {
            int[] cells = of.fields.get(tree.name);
            int index = tree.parts.isEmpty() ? 0 : value(tree.parts.get(0), places);
            if (index < 0 || index >= cells.length) {
                throw new Thrown("index");
            }
            return cells[index];
        }

        int value(NaiveText.Tree tree, Map<String, Integer> places) {
            switch (tree.kind) {
                case "NUMBER": return tree.number;
                case "local": return places.get(tree.name);
                case "field": case "row": return cell(tree, thing, places);
                case "old": return cell(tree.parts.get(0), old, places);
                case "result": return result;
                case "call": return called(tree, places, true);
                case "un":
                    int number = value(tree.parts.get(0), places);
                    return tree.name.equals("-") ? -number : truth(number == 0);
                default: return ofTwo(tree, places);
            }
        }

        private static int truth(boolean holds) {
            return holds ? 1 : 0;
        }

        private int ofTwo(NaiveText.Tree tree, Map<String, Integer> places) {
            int left = value(tree.parts.get(0), places);
            if (tree.kind.equals("&&")) {
                return truth(left != 0 && value(tree.parts.get(1), places) != 0);
            }
            if (tree.kind.equals("||")) {
                return truth(left != 0 || value(tree.parts.get(1), places) != 0);
            }
            int right = value(tree.parts.get(1), places);
            if ((tree.kind.equals("/") || tree.kind.equals("%")) && right == 0) {
                throw new Thrown("zero");
            }
            switch (tree.kind) {
                case "+": return left + right;
                case "-": return left - right;
                case "*": return left * right;
                case "/": return left / right;
                case "%": return left % right;
                case "==": return truth(left == right);
                case "!=": return truth(left != right);
                case "<": return truth(left < right);
                case "<=": return truth(left <= right);
                case ">": return truth(left > right);
                default: return truth(left >= right);
            }
        }
    }

    /** object, member (-1: MAKE), then three arguments (the class first, of MAKE). */
    record Call(int object, int member, int a, int b, int d) {
        List<Integer> arguments() {
            return List.of(a, b, d);
        }

        Call with(int k, int number) {
            return new Call(object, member, k == 0 ? number : a, k == 1 ? number : b, k == 2 ? number : d);
        }
    }

    static final class Run {
        int verdict = 0;
        NaiveText.Mark broken;
        int brokenObject = -1;
        int changedObject = -1;
        int changedCell = -1;
        String thrown = "";
        int cutAt = -1;
        final List<Thing> things = new ArrayList<>();
        final List<Thing> besides = new ArrayList<>();
        final int[] gave = new int[10];
        final int[] done = new int[10];

        int place() {
            return broken == null ? -1 : broken.place;
        }
    }

    private static final class Broken extends RuntimeException {
        Broken() {
            super(null, null, false, false);
        }
    }

    String tape = "";
    NaiveText text;
    List<NaiveText.Toy> toys = new ArrayList<>();
    int faultKind = 0;
    int faultPlace = -1;
    List<Call> row = new ArrayList<>();
    Run run = new Run();
    int tried = 0;
    int cut = 0;
    boolean asItIs = false;

    int classes() {
        String told = tape;
        tape = "";
        try {
            text = new NaiveText(told);
        } catch (NaiveText.Fault fault) {
            faultKind = fault.kind;
            faultPlace = fault.place;
            return -1;
        }
        toys = text.toys;
        faultKind = 0;
        faultPlace = -1;
        row = new ArrayList<>();
        run = new Run();
        tried = 0;
        cut = 0;
        asItIs = false;
        return toys.size();
    }

    private boolean holds(Run to, NaiveText.Mark mark, int object, Work work, NaiveText.Member member, Call call) {
        Map<String, Integer> places = new HashMap<>();
        for (int i = 0; member != null && i < member.params.size(); i++) {
            places.put(member.params.get(i), call.arguments().get(i));
        }
        int bad = 7;
        try {
            return work.value(mark.ex, places) != 0;
        } catch (Thrown thrown) {
            to.thrown = thrown.word;
        } catch (Stop stop) {
            bad = stop.why.equals("IMPURE") ? 5 : 7;
        }
        throw broken(to, bad, mark, object);
    }

    private static Broken broken(Run to, int verdict, NaiveText.Mark mark, int object) {
        to.verdict = verdict;
        to.broken = mark;
        to.brokenObject = object;
        return new Broken();
    }

    private void askKept(Run to, int object) {
        Thing thing = to.things.get(object);
        for (NaiveText.Toy toy = thing.toy; toy != null; toy = toy.above) {
            for (NaiveText.Mark mark : toy.kept) {
                if (!holds(to, mark, object, new Work(thing, null, true, 0), null, null)) {
                    throw broken(to, 2, mark, object);
                }
            }
        }
    }

    Run runRow(List<Call> calls) {
        Run to = new Run();
        try {
            for (int i = 0; i < calls.size(); i++) {
                if (calls.get(i).member < 0) {
                    NaiveText.Toy toy = toys.get(calls.get(i).a);
                    to.things.add(new Thing(toy));
                    to.besides.add(toy.model < 0 ? null : new Thing(toys.get(toy.model)));
                    to.done[i] = 1;
                    askKept(to, calls.get(i).object);
                } else {
                    doCall(to, calls.get(i), i);
                }
            }
        } catch (Broken broken) {
            return to;
        }
        return to;
    }

    private void doCall(Run to, Call call, int i) {
        int object = call.object;
        Thing thing = to.things.get(object);
        NaiveText.Member member = thing.toy.members.get(call.member);
        Thing old = thing.copy();
        boolean met = false;
        for (NaiveText.Member told = member; told != null && !met; told = told.over) {
            met = true;
            for (NaiveText.Mark mark : told.marks) {
                met = met && (!mark.kind.equals("needs") || holds(to, mark, object, new Work(thing, old, true, 0), told, call));
            }
        }
        if (!met) {
            to.cutAt = i;
            throw broken(to, -1, null, -1);
        }
        String word = null;
        int gave = 0;
        try {
            gave = new Work(thing, null, false, 0).call(member, call.arguments());
            to.done[i] = 1;
            to.gave[i] = gave;
        } catch (Thrown thrown) {
            to.done[i] = 2;
            word = thrown.word;
            to.thrown = word;
        } catch (Stop stop) {
            to.done[i] = 2;
            throw broken(to, 8, null, -1);
        }
        askThrows(to, call, member, old, word);
        findChanges(to, object, member, old);
        for (NaiveText.Member told = member; told != null && word == null; told = told.over) {
            for (NaiveText.Mark mark : told.marks) {
                if (mark.kind.equals("gives") && !holds(to, mark, object, new Work(thing, old, true, gave), told, call)) {
                    throw broken(to, 1, mark, object);
                }
            }
        }
        for (int k = 0; k < to.things.size(); k++) {
            askKept(to, k);
        }
        askModel(to, call, member, word, gave);
    }

    private void askThrows(Run to, Call call, NaiveText.Member member, Thing old, String word) {
        for (NaiveText.Member told = member; told != null && word != null; told = told.over) {
            for (NaiveText.Mark mark : told.marks) {
                boolean named = mark.kind.equals("throws") && mark.word.equals(word);
                if (named && (mark.ex == null || holds(to, mark, call.object, new Work(old, old, true, 0), told, call))) {
                    return;
                }
            }
        }
        if (word != null) {
            throw broken(to, 3, null, -1);
        }
    }

    private void findChanges(Run to, int object, NaiveText.Member member, Thing old) {
        Thing thing = to.things.get(object);
        for (int k = 0; k < thing.cells().size() && member.pure; k++) {
            changed(to, 5, object, k, !thing.cells().get(k).equals(old.cells().get(k)));
        }
        for (int k = 0; k < thing.cells().size(); k++) {
            for (NaiveText.Member told = member; told != null; told = told.over) {
                for (NaiveText.Mark mark : told.marks) {
                    boolean another = mark.kind.equals("only") && !mark.fields.contains(thing.names().get(k));
                    changed(to, 4, object, k, another && !thing.cells().get(k).equals(old.cells().get(k)));
                }
            }
        }
    }

    private static void changed(Run to, int verdict, int object, int cell, boolean bad) {
        if (bad) {
            to.changedObject = object;
            to.changedCell = cell;
            throw broken(to, verdict, null, -1);
        }
    }

    private void askModel(Run to, Call call, NaiveText.Member member, String word, int gave) {
        Thing beside = to.besides.get(call.object);
        NaiveText.Member there = beside == null ? null : beside.toy.member(member.name);
        if (there == null || there.params.size() != member.params.size()) {
            return;
        }
        String otherWord = null;
        int otherGave = 0;
        try {
            otherGave = new Work(beside, null, false, 0).call(there, call.arguments());
        } catch (Thrown thrown) {
            otherWord = thrown.word;
            to.thrown = otherWord;
        } catch (Stop stop) {
            throw broken(to, 6, null, -1);
        }
        boolean alike = word == null ? otherWord == null && gave == otherGave : word.equals(otherWord);
        if (!alike) {
            throw broken(to, 6, null, -1);
        }
    }

    private int tell(List<Call> calls, Run of) {
        row = calls;
        run = of;
        asItIs = true;
        return of.verdict;
    }

    int runOwn() {
        return row.isEmpty() ? -2 : tell(row, runRow(row));
    }

    private int seed;

    private int next() {
        seed = 1103515245 * seed + 12345;
        return (seed & 0x7fffffff) / 65536;
    }

    int draw(int c, int from, int n) {
        tried = 0;
        cut = 0;
        for (int i = 0; i < n; i++) {
            seed = from + 7919 * i;
            List<Call> calls = drawRow(c);
            tried++;
            int verdict = tell(calls, runRow(calls));
            cut += verdict == -1 ? 1 : 0;
            if (verdict > 0) {
                return verdict;
            }
        }
        return 0;
    }

    private List<Call> drawRow(int c) {
        List<NaiveText.Member> members = toys.get(c).members;
        int size = 1 + next() % 10;
        List<Call> calls = new ArrayList<>(List.of(new Call(0, -1, c, 0, 0)));
        int objects = 1;
        while (calls.size() < size) {
            boolean makes = next() % 8 == 0 && objects < 3;
            int object = makes ? 0 : next() % objects;
            if (makes || (members.isEmpty() && objects < 3)) {
                calls.add(new Call(objects, -1, c, 0, 0));
                objects++;
                continue;
            }
            if (members.isEmpty()) {
                break;
            }
            int member = next() % members.size();
            Call call = new Call(object, member, 0, 0, 0);
            for (int k = 0; k < members.get(member).params.size(); k++) {
                int[] range = members.get(member).ranges.get(k);
                int how = next() % 4;
                long number = how == 0 ? range[0] : how == 1 ? range[1] : how == 2 ? first(range) : range[0] + next() % ((long) range[1] - range[0] + 1);
                call = call.with(k, (int) number);
            }
            calls.add(call);
        }
        return calls;
    }

    private static int first(int[] range) {
        return range[0] <= 0 && 0 <= range[1] ? 0 : range[0];
    }

    int all(int c, int size) {
        tried = 0;
        cut = 0;
        for (int length = 1; length <= size; length++) {
            int verdict = allBehind(new ArrayList<>(List.of(new Call(0, -1, c, 0, 0))), 1, c, length);
            if (verdict != 0) {
                return Math.max(verdict, 0);
            }
        }
        return 0;
    }

    /** 0 to go on, a verdict, or -1 when 600 were run. */
    private int allBehind(List<Call> ahead, int objects, int c, int length) {
        if (ahead.size() == length) {
            if (tried == 600) {
                return -1;
            }
            tried++;
            int verdict = tell(ahead, runRow(ahead));
            cut += verdict == -1 ? 1 : 0;
            return Math.max(verdict, 0);
        }
        if (runRow(ahead).verdict == -1) {
            return 0;
        }
        List<Call> options = new ArrayList<>();
        for (int m = 0; m < toys.get(c).members.size(); m++) {
            for (int object = 0; object < objects; object++) {
                options.addAll(withArguments(new Call(object, m, 0, 0, 0), 0, toys.get(c).members.get(m).ranges));
            }
        }
        if (objects < 3) {
            options.add(new Call(objects, -1, c, 0, 0));
        }
        for (Call option : options) {
            List<Call> calls = new ArrayList<>(ahead);
            calls.add(option);
            int verdict = allBehind(calls, objects + (option.member < 0 ? 1 : 0), c, length);
            if (verdict != 0) {
                return verdict;
            }
        }
        return 0;
    }

    private static List<Call> withArguments(Call call, int k, List<int[]> ranges) {
        if (k == ranges.size()) {
            return List.of(call);
        }
        int[] range = ranges.get(k);
        List<Call> calls = new ArrayList<>(withArguments(call.with(k, range[0]), k + 1, ranges));
        if (range[0] < 0 && range[1] > 0) {
            calls.addAll(withArguments(call.with(k, 0), k + 1, ranges));
        }
        if (range[1] != range[0]) {
            calls.addAll(withArguments(call.with(k, range[1]), k + 1, ranges));
        }
        return calls;
    }

    int shrink() {
        if (!asItIs || run.verdict <= 0) {
            return -2;
        }
        int taken = 0;
        while (takeLesser()) {
            taken++;
        }
        if (taken == 0) {
            tell(row, runRow(row));
        }
        return taken;
    }

    private boolean takeLesser() {
        for (List<Call> calls : lesser()) {
            if (!calls.isEmpty() && !calls.equals(row)) {
                Run of = runRow(calls);
                if (of.verdict == run.verdict && of.place() == run.place()) {
                    tell(calls, of);
                    return true;
                }
            }
        }
        return false;
    }

    private List<List<Call>> lesser() {
        List<List<Call>> all = new ArrayList<>();
        for (Call left : row) {
            List<Call> calls = new ArrayList<>();
            for (Call call : row) {
                boolean goes = left.member < 0 ? call.object == left.object : call == left;
                int object = left.member < 0 && call.object > left.object ? call.object - 1 : call.object;
                if (!goes) {
                    calls.add(new Call(object, call.member, call.a, call.b, call.d));
                }
            }
            all.add(calls);
        }
        for (int i = 0; i < row.size(); i++) {
            Call call = row.get(i);
            List<int[]> ranges = call.member < 0 ? List.of() : toys.get(toyOf(call.object)).members.get(call.member).ranges;
            for (int k = 0; k < ranges.size(); k++) {
                long first = first(ranges.get(k));
                long half = first + (call.arguments().get(k) - first) / 2;
                for (long number : new long[] {first, half}) {
                    List<Call> calls = new ArrayList<>(row);
                    calls.set(i, call.with(k, (int) number));
                    all.add(calls);
                }
            }
        }
        return all;
    }

    int toyOf(int object) {
        for (Call call : row) {
            if (call.member < 0 && call.object == object) {
                return call.a;
            }
        }
        return -1;
    }

    int objects() {
        return (int) row.stream().filter(call -> call.member < 0).count();
    }
}
