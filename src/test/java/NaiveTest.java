import java.util.Random;

/** Random texts and rows: the garden answers as the naive one does. */
public final class NaiveTest {
    private static final int TEXTS = 1500;
    private static final Check check = new Check();
    private static final int[] verdicts = new int[12];
    private static final int[] faults = new int[8];

    public static void main(String[] args) {
        int from = args.length > 0 ? Integer.parseInt(args[0]) : 0;
        int texts = args.length > 1 ? Integer.parseInt(args[1]) : TEXTS;
        for (int i = from; i < from + texts; i++) {
            Random random = new Random(i);
            RandomText maker = new RandomText(random);
            compare(random, random.nextInt(3) > 0 ? maker.text() : maker.changed());
            compareFaults(new RandomText(random).crowded());
            compareFaults(new RandomText(random).deep());
        }
        System.out.println("verdicts from -1 on " + java.util.Arrays.toString(verdicts) + ", FAULTS " + java.util.Arrays.toString(faults));
        check.end();
    }

    private static void compareFaults(String text) {
        if (text.length() <= 4000) {
            read(new TrialGarden(), new NaiveGarden(), text);
        }
    }

    private static int read(TrialGarden g, NaiveGarden naive, String text) {
        Check.onTape(g, text);
        naive.tape = text;
        int classes = naive.classes();
        check.is("classes() of " + text, g.classes(), classes);
        check.is("fault(0) of " + text, g.fault(0), naive.faultKind);
        check.is("fault(1) of " + text, g.fault(1), naive.faultPlace);
        check.is("count(1) of " + text, g.count(1), naive.tape.length());
        faults[naive.faultKind]++;
        return classes;
    }

    private static void compare(Random random, String text) {
        TrialGarden g = new TrialGarden();
        NaiveGarden naive = new NaiveGarden();
        if (read(g, naive, text) < 0) {
            return;
        }
        check.is("count(2) of " + text, g.count(2), naive.text.parts);
        for (int i = 0; i < 4; i++) {
            int verdict = one(random, g, naive, text);
            verdicts[Math.min(Math.max(verdict, -1), 9) + 1]++;
            observe(g, naive, text);
            if (random.nextInt(3) == 0) {
                otherModel(random, g, naive);
            }
            check.is("shrink() of " + text, g.shrink(), naive.shrink());
            observe(g, naive, text);
        }
    }

    private static void otherModel(Random random, TrialGarden g, NaiveGarden naive) {
        int c = random.nextInt(naive.toys.size());
        naive.toys.get(c).model = random.nextInt(naive.toys.size() + 1) - 1;
        check.is("model()", g.model(c, naive.toys.get(c).model), 1);
    }

    private static int one(Random random, TrialGarden g, NaiveGarden naive, String text) {
        int classes = naive.toys.size();
        int c = random.nextInt(classes);
        if (random.nextInt(3) == 0) {
            otherModel(random, g, naive);
        }
        int due;
        switch (random.nextInt(3)) {
            case 0:
                int seed = random.nextInt();
                int n = 1 + random.nextInt(30);
                due = naive.draw(c, seed, n);
                check.is("draw() of " + text, g.draw(c, seed, n), due);
                return due;
            case 1:
                int size = 1 + random.nextInt(3);
                due = naive.all(c, size);
                check.is("all(" + c + ", " + size + ") of " + text, g.all(c, size), due);
                return due;
            default:
                ownRow(random, g, naive);
                due = naive.runOwn();
                check.is("run() of " + text, g.run(), due);
                return due;
        }
    }

    private static void ownRow(Random random, TrialGarden g, NaiveGarden naive) {
        if (random.nextBoolean()) {
            check.is("clear()", g.clear(), naive.row.size());
            naive.row = new java.util.ArrayList<>();
        }
        naive.row = new java.util.ArrayList<>(naive.row);
        for (int i = 1 + random.nextInt(9); i > 0; i--) {
            int objects = naive.objects();
            int c = random.nextInt(naive.toys.size());
            if (objects == 0 || random.nextInt(5) == 0) {
                boolean full = naive.row.size() >= 10 || objects >= 3;
                check.is("make()", g.make(c), full ? -3 : objects);
                if (!full) {
                    naive.row.add(new NaiveGarden.Call(objects, -1, c, 0, 0));
                    naive.asItIs = false;
                }
                continue;
            }
            int object = random.nextInt(objects);
            NaiveText.Toy toy = naive.toys.get(naive.toyOf(object));
            if (toy.members.isEmpty()) {
                continue;
            }
            int m = random.nextInt(toy.members.size());
            int[] a = new int[3];
            for (int k = 0; k < toy.members.get(m).params.size(); k++) {
                int[] range = toy.members.get(m).ranges.get(k);
                a[k] = range[0] + random.nextInt(range[1] - range[0] + 1);
            }
            boolean full = naive.row.size() >= 10;
            check.is("call()", g.call(object, m, a[0], a[1], a[2]), full ? -3 : naive.row.size() + 1);
            if (!full) {
                naive.row.add(new NaiveGarden.Call(object, m, a[0], a[1], a[2]));
                naive.asItIs = false;
            }
        }
    }

    private static void observe(TrialGarden g, NaiveGarden naive, String text) {
        NaiveGarden.Run run = naive.run;
        String of = " of " + text;
        check.is("verdict()" + of, g.verdict(), run.verdict);
        check.is("row()" + of, g.row(), naive.row.size());
        check.is("tried()" + of, g.tried(), naive.tried);
        check.is("cut()" + of, g.cut(), naive.cut);
        check.is("condition(0)" + of, g.condition(0), run.broken == null ? -1 : run.broken.toy);
        check.is("condition(1)" + of, g.condition(1), run.brokenObject);
        check.is("condition(2)" + of, g.condition(2), run.place());
        check.is("changed(0)" + of, g.changed(0), run.changedObject);
        check.is("changed(1)" + of, g.changed(1), run.changedCell);
        check.same("thrown()" + of, Check.thrown(g), run.thrown);
        check.is("count(3)" + of, g.count(3), run.things.size());
        for (int i = 0; i < naive.row.size(); i++) {
            NaiveGarden.Call call = naive.row.get(i);
            int[] due = {call.object(), call.member(), call.a(), call.b(), call.d()};
            for (int what = 0; what < due.length; what++) {
                check.is("told(" + i + ", " + what + ")" + of, g.told(i, what), due[what]);
            }
            if (naive.asItIs) {
                check.is("told(" + i + ", 5)" + of, g.told(i, 5), run.gave[i]);
                check.is("told(" + i + ", 6)" + of, g.told(i, 6), run.done[i]);
            }
        }
        for (int o = 0; o < run.things.size(); o++) {
            cells(g, run, o, of);
        }
        for (NaiveText.Toy toy : naive.toys) {
            for (int m = 0; m < toy.members.size(); m++) {
                long begun = toy.members.get(m).all.stream().filter(st -> st.begun).count();
                check.is("member(" + toy.number + ", " + m + ", 3)" + of, g.member(toy.number, m, 3), begun);
            }
        }
    }

    private static void cells(TrialGarden g, NaiveGarden.Run run, int o, String of) {
        int k = 0;
        for (int cell : run.things.get(o).cells()) {
            check.is("cell(" + o + ", " + k + ")" + of, g.cell(o, k), cell);
            k++;
        }
        check.is("cell(" + o + ", " + k + ")" + of, g.cell(o, k), Long.MIN_VALUE);
        k = 0;
        if (run.besides.get(o) != null) {
            for (int cell : run.besides.get(o).cells()) {
                check.is("beside(" + o + ", " + k + ")" + of, g.beside(o, k), cell);
                k++;
            }
        }
        check.is("beside(" + o + ", " + k + ")" + of, g.beside(o, k), Long.MIN_VALUE);
    }
}
