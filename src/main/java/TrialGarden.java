/**
 * A garden in which toy classes are tried: a text tells classes with their conditions, rows of calls
 * are run on them with every condition asked, and the first bad row is told and made least.
 *
 * <p>A text is read once into stack code (Reader, Expressions, Text); the Machine works that code out;
 * the Trial runs a Row and writes down in a Run what came of it. Nothing is made behind the
 * constructor: all rows stand ready and are used again.
 */
public final class TrialGarden {
    public static final int NONE = -1;
    public static final int RANGE = -2;
    public static final int FULL = -3;

    private static final int TAPE_BYTES = 4000;
    private static final int FED_BYTES = 20;

    private final byte[] tape;
    private int tapeLength;
    private final Reader reader;
    private final Trial trial;
    private Text text;
    private Text spare;
    private int faultKind;
    private int faultPlace;

    public TrialGarden() {
        tape = new byte[TAPE_BYTES];
        tapeLength = 0;
        reader = new Reader();
        text = new Text();
        spare = new Text();
        trial = new Trial(text);
        faultKind = 0;
        faultPlace = NONE;
    }

    public int feed(int a, int b, int c, int d, int e) {
        if (tapeLength + FED_BYTES > TAPE_BYTES) {
            return FULL;
        }
        putBytes(a);
        putBytes(b);
        putBytes(c);
        putBytes(d);
        putBytes(e);
        return tapeLength;
    }

    private void putBytes(int four) {
        for (int shift = 24; shift >= 0 && tapeLength < TAPE_BYTES; shift -= 8) {
            tape[tapeLength] = (byte) (four >>> shift);
            tapeLength++;
        }
    }

    public int end(int n) {
        if (n < 0 || n > tapeLength) {
            return NONE;
        }
        tapeLength = n;
        return n;
    }

    public int classes() {
        reader.begin(tape, tapeLength, spare);
        reader.readClass();
        for (int i = 0; i <= Text.CLASSES && reader.atClass(); i++) {
            reader.readClass();
        }
        reader.finish();
        tapeLength = 0;
        faultKind = reader.faultKind();
        faultPlace = reader.faultPlace();
        if (faultKind != 0) {
            return NONE;
        }
        Text read = spare;
        spare = text;
        text = read;
        trial.useText(text);
        return text.classCount;
    }

    public int fault(int what) {
        if (what == 0) {
            return faultKind;
        }
        return what == 1 ? faultPlace : NONE;
    }

    public int about(int c, int what) {
        if (!text.hasClass(c)) {
            return NONE;
        }
        Toy toy = text.toys[c];
        switch (what) {
            case 0: return toy.above;
            case 1: return toy.fields;
            case 2: return toy.cells;
            case 3: return toy.members;
            case 4: return toy.keptCount;
            case 5: return toy.model;
            default: return NONE;
        }
    }

    public int member(int c, int m, int what) {
        if (!text.hasMember(c, m)) {
            return NONE;
        }
        Telling telling = text.tellings[text.toys[c].teller[m]];
        switch (what) {
            case 0: return telling.toy;
            case 1: return telling.params;
            case 2: return telling.stCount;
            case 3: return text.begunOf(telling);
            case 4: return telling.pure ? 1 : 0;
            case 5: return telling.place;
            default: return NONE;
        }
    }

    public int model(int a, int b) {
        if (!text.hasClass(a) || (b != NONE && !text.hasClass(b))) {
            return RANGE;
        }
        text.toys[a].model = b;
        return 1;
    }

    public int clear() {
        int had = trial.row.length;
        trial.emptyRow();
        return had;
    }

    public int make(int c) {
        if (!text.hasClass(c)) {
            return RANGE;
        }
        if (!trial.row.roomForMake()) {
            return FULL;
        }
        return trial.appendMake(c);
    }

    public int call(int object, int member, int a, int b, int d) {
        if (!trial.row.mayTake(text, object, member, a, b, d)) {
            return RANGE;
        }
        if (!trial.row.roomForCall()) {
            return FULL;
        }
        return trial.appendCall(object, member, a, b, d);
    }

    public int run() {
        if (trial.row.length == 0) {
            return RANGE;
        }
        trial.runOwnRow();
        return trial.latest.verdict;
    }

    public int draw(int c, int seed, int n) {
        if (!text.hasClass(c) || n < 1 || n > 100) {
            return RANGE;
        }
        return trial.tryDrawn(c, seed, n);
    }

    public int all(int c, int size) {
        if (!text.hasClass(c) || size < 1 || size > 4) {
            return RANGE;
        }
        return trial.tryAll(c, size);
    }

    public int tried() {
        return trial.rowsTried;
    }

    public int cut() {
        return trial.rowsCut;
    }

    public int shrink() {
        if (!trial.ranAsItIs || trial.latest.verdict <= 0) {
            return RANGE;
        }
        return trial.makeLeast();
    }

    public int verdict() {
        return trial.latest.verdict;
    }

    public int condition(int what) {
        Run latest = trial.latest;
        int mark = latest.brokenMark;
        if (mark < 0 || mark >= text.markCount) {
            return NONE;
        }
        switch (what) {
            case 0: return text.markToy[mark];
            case 1: return latest.brokenObject;
            case 2: return text.markPlace[mark];
            case 3: return text.markKind[mark];
            default: return NONE;
        }
    }

    public int changed(int what) {
        if (what == 0) {
            return trial.latest.changedObject;
        }
        return what == 1 ? trial.latest.changedCell : NONE;
    }

    public int thrown(int i) {
        return Tokens.letterOf(trial.latest.thrownWord, i);
    }

    public int row() {
        return trial.row.length;
    }

    public int told(int i, int what) {
        Row row = trial.row;
        if (i < 0 || i >= row.length) {
            return NONE;
        }
        switch (what) {
            case 0: return row.object[i];
            case 1: return row.member[i];
            case 2: return row.argument[i][0];
            case 3: return row.argument[i][1];
            case 4: return row.argument[i][2];
            case 5: return trial.latest.gave[i];
            case 6: return trial.latest.done[i];
            default: return NONE;
        }
    }

    public long cell(int object, int k) {
        Run latest = trial.latest;
        if (object < 0 || object >= latest.objects || k < 0 || k >= text.cellsOf(latest.toyOf[object])) {
            return Long.MIN_VALUE;
        }
        return latest.cells[object][k];
    }

    public long beside(int object, int k) {
        Run latest = trial.latest;
        if (object < 0 || object >= latest.objects || k < 0 || k >= text.cellsOf(latest.besideOf[object])) {
            return Long.MIN_VALUE;
        }
        return latest.besides[object][k];
    }

    public int count(int what) {
        switch (what) {
            case 0: return text.classCount;
            case 1: return tapeLength;
            case 2: return text.partCount;
            case 3: return trial.latest.objects;
            default: return NONE;
        }
    }

    /** The TOKENS of a tape, where the reading stands among them, and the first FAULT. */
    private static final class Tokens {
        static final int MOST = 1200;
        static final int LETTERS = 12;
        static final int DIGITS = 9;
        static final long BASE = 38;

        static final int SYNTAX = 1;
        static final int NAMING = 2;
        static final int SPAN = 3;
        static final int ROOM = 4;
        static final int SORT = 5;
        static final int ARGUMENTS = 6;
        static final int HEIGHT = 7;

        static final int STOP = 0;
        static final int END = 1;
        static final int WRONG = 2;
        static final int NAME = 3;
        static final int NUMBER = 4;
        static final int CLASS = 10;
        static final int ABOVE = 11;
        static final int INT = 12;
        static final int KEPT = 13;
        static final int MEMBER = 14;
        static final int IN = 15;
        static final int NEEDS = 16;
        static final int GIVES = 17;
        static final int THROWS = 18;
        static final int WHEN = 19;
        static final int ONLY = 20;
        static final int PURE = 21;
        static final int LET = 22;
        static final int IF = 23;
        static final int ELSE = 24;
        static final int WHILE = 25;
        static final int RETURN = 26;
        static final int THROW = 27;
        static final int OLD = 28;
        static final int RESULT = 29;
        static final int SIZE = 30;
        static final int QUOTED = 21;
        static final String QUOTED_HEADS = "class above int kept member in needs gives throws when only pure ";
        static final String QUOTED_REST = "let if else while return throw old result size ";
        static final int TO = 200;
        static final int SAME = 201;
        static final int OTHER = 202;
        static final int AT_MOST = 203;
        static final int AT_LEAST = 204;
        static final int AND = 205;
        static final int OR = 206;
        static final String SIGNS = "(){}[],;.=<>+-*/%!";

        private final int[] kinds;
        private final int[] places;
        private final long[] values;
        private final long[] quoted;
        private byte[] tape;
        private int length;
        private int at;
        private boolean bracketBehindAll;
        int faultKind;
        int faultPlace;

        Tokens() {
            kinds = new int[MOST + 2];
            places = new int[MOST + 2];
            values = new long[MOST + 2];
            quoted = new long[QUOTED];
            tape = new byte[0];
            faultPlace = NONE;
            int n = packWords(QUOTED_HEADS, 0);
            packWords(QUOTED_REST, n);
        }

        /** Packs the quoted words of a text, each with a blank behind, from place n on: the place behind them. */
        private int packWords(String words, int from) {
            int n = from;
            long word = 0;
            for (int i = 0; i < words.length() && n < QUOTED; i++) {
                int code = codeOf(words.charAt(i));
                if (code > 0) {
                    word = word * BASE + code;
                } else {
                    quoted[n] = word;
                    n++;
                    word = 0;
                }
            }
            return n;
        }

        /** A WORD's sign as a digit from 1 on, so that twelve of them fit in a long; 0 for all other signs. */
        static int codeOf(int sign) {
            if (sign >= 'a' && sign <= 'z') {
                return sign - 'a' + 1;
            }
            if (sign >= '0' && sign <= '9') {
                return sign - '0' + 27;
            }
            return sign == '_' ? 37 : 0;
        }

        /** Byte i of a WORD that was packed into a long. */
        static int letterOf(long word, int i) {
            int letters = 0;
            for (long rest = word; rest > 0 && letters < LETTERS; rest /= BASE) {
                letters++;
            }
            if (i < 0 || i >= letters) {
                return NONE;
            }
            long rest = word;
            for (int k = letters - 1; k > i; k--) {
                rest /= BASE;
            }
            int code = (int) (rest % BASE);
            if (code == 37) {
                return '_';
            }
            return code > 26 ? '0' + code - 27 : 'a' + code - 1;
        }

        /** Takes the tape apart, up to the 1201st TOKEN: that one is looked at too, for its own FAULTS. */
        void takeApart(byte[] bytes, int count) {
            tape = bytes;
            length = Math.min(count, bytes.length);
            at = 0;
            faultKind = 0;
            faultPlace = NONE;
            int p = 0;
            int kind = STOP;
            for (int n = 0; n <= MOST && kind != END && kind != WRONG; n++) {
                p = behindBlanks(p);
                p += takeToken(n, p);
                kind = kinds[n];
            }
            kinds[MOST + 1] = STOP;
            places[MOST + 1] = length;
            bracketBehindAll = byteAt(behindBlanks(p)) == '(';
        }

        private int behindBlanks(int from) {
            int p = from;
            while (p < length && (byteAt(p) == 32 || byteAt(p) == 10)) {
                p++;
            }
            return p;
        }

        private int byteAt(int p) {
            return p >= 0 && p < length ? tape[p] & 255 : 0;
        }

        private int takeToken(int n, int p) {
            places[n] = p;
            values[n] = 0;
            int sign = byteAt(p);
            if (p >= length) {
                kinds[n] = END;
                return 0;
            }
            if (sign >= 'a' && sign <= 'z') {
                return takeWord(n, p);
            }
            if (sign >= '0' && sign <= '9') {
                return takeNumber(n, p);
            }
            kinds[n] = pairKind(sign, byteAt(p + 1));
            if (kinds[n] != WRONG) {
                return 2;
            }
            if (SIGNS.indexOf((char) sign) >= 0) {
                kinds[n] = sign;
            }
            return 1;
        }

        private int takeWord(int n, int p) {
            int size = 0;
            long word = 0;
            for (int i = p; i < length && codeOf(byteAt(i)) > 0; i++) {
                word = size < LETTERS ? word * BASE + codeOf(byteAt(i)) : word;
                size++;
            }
            values[n] = word;
            kinds[n] = size > LETTERS ? WRONG : NAME;
            for (int i = 0; i < QUOTED && kinds[n] == NAME; i++) {
                if (quoted[i] == word) {
                    kinds[n] = CLASS + i;
                }
            }
            return size;
        }

        private int takeNumber(int n, int p) {
            int size = 0;
            long number = 0;
            for (int i = p; i < length && byteAt(i) >= '0' && byteAt(i) <= '9'; i++) {
                number = size < DIGITS ? number * 10 + (byteAt(i) - '0') : number;
                size++;
            }
            values[n] = number;
            kinds[n] = size > DIGITS ? WRONG : NUMBER;
            return size;
        }

        private static int pairKind(int sign, int behind) {
            if (behind == '=') {
                switch (sign) {
                    case '=': return SAME;
                    case '!': return OTHER;
                    case '<': return AT_MOST;
                    case '>': return AT_LEAST;
                    default: return WRONG;
                }
            }
            if (sign != behind) {
                return WRONG;
            }
            switch (sign) {
                case '.': return TO;
                case '&': return AND;
                case '|': return OR;
                default: return WRONG;
            }
        }

        int kind() {
            return kinds[at];
        }

        int place() {
            return places[at];
        }

        long value() {
            return values[at];
        }

        /** Whether a ( stands here, which makes the NAME ahead a member's; it may be behind the 1201st TOKEN. */
        boolean atBracket() {
            return at > MOST ? bracketBehindAll : kinds[at] == '(';
        }

        void next() {
            if (at <= MOST) {
                at++;
            }
        }

        /**
         * Tells a FAULT, if it is the first. When the 1201st TOKEN was taken already its ROOM goes ahead of
         * all but a lesser KIND of that TOKEN, which the TOKEN behind it may show.
         */
        void fail(int kind, int place) {
            boolean full = at > MOST && (kind > ROOM || place != places[MOST]);
            if (faultKind == 0) {
                faultKind = full ? ROOM : kind;
                faultPlace = full ? places[MOST] : place;
            }
            at = MOST + 1;
        }

        /** Goes on behind a TOKEN of this kind; SYNTAX if it is another. */
        void take(int kind) {
            if (kinds[at] == kind) {
                next();
            } else {
                fail(SYNTAX, places[at]);
            }
        }
    }

    /** A text as it was read: classes, members as they are told, marks, and the code of it all. */
    private static final class Text {
        static final int CLASSES = 8;
        static final int TELLINGS = 96;
        /** No TOKEN makes more than three codes with the next one: 1200 of them stay below this. */
        static final int CODE = 2000;
        /** A mark has three TOKENS at least, but for one pure of each member. */
        static final int MARKS = 500;
        /** A st has three TOKENS at least. */
        static final int STATEMENTS = 420;

        static final int NEEDS = 1;
        static final int GIVES = 2;
        static final int KEPT = 3;
        static final int THROWS = 4;
        static final int ONLY = 5;
        static final int PURE = 6;

        final Toy[] toys;
        int classCount;
        final Telling[] tellings;
        int tellingCount;
        final int[] ops;
        final int[] args;
        int codeCount;
        final int[] markKind;
        final int[] markStart;
        final int[] markPlace;
        final int[] markFields;
        final int[] markToy;
        final long[] markWord;
        int markCount;
        final boolean[] begun;
        int stCount;
        final long[] words;
        int wordCount;
        int partCount;

        Text() {
            toys = new Toy[CLASSES];
            for (int i = 0; i < CLASSES; i++) {
                toys[i] = new Toy();
            }
            tellings = new Telling[TELLINGS];
            for (int i = 0; i < TELLINGS; i++) {
                tellings[i] = new Telling();
            }
            ops = new int[CODE];
            args = new int[CODE];
            markKind = new int[MARKS];
            markStart = new int[MARKS];
            markPlace = new int[MARKS];
            markFields = new int[MARKS];
            markToy = new int[MARKS];
            markWord = new long[MARKS];
            begun = new boolean[STATEMENTS];
            words = new long[STATEMENTS];
        }

        void wipe() {
            classCount = 0;
            tellingCount = 0;
            codeCount = 0;
            markCount = 0;
            stCount = 0;
            wordCount = 0;
            partCount = 0;
        }

        boolean hasClass(int c) {
            return c >= 0 && c < classCount;
        }

        boolean hasMember(int c, int m) {
            return hasClass(c) && m >= 0 && m < toys[c].members;
        }

        int cellsOf(int c) {
            return c >= 0 && c < classCount ? toys[c].cells : 0;
        }

        int classNamed(long word) {
            for (int c = 0; c < classCount; c++) {
                if (toys[c].name == word) {
                    return c;
                }
            }
            return NONE;
        }

        /** The number of the member of that NAME among those that the class has. */
        int memberNamed(Toy toy, long word) {
            for (int k = 0; k < toy.members; k++) {
                if (tellings[toy.teller[k]].name == word) {
                    return k;
                }
            }
            return NONE;
        }

        int begunOf(Telling telling) {
            int n = 0;
            for (int i = telling.firstSt; i < telling.firstSt + telling.stCount && i < stCount; i++) {
                n += begun[i] ? 1 : 0;
            }
            return n;
        }

        void emit(int op, int arg) {
            if (codeCount < CODE) {
                ops[codeCount] = op;
                args[codeCount] = arg;
                codeCount++;
            }
        }

        /** The jump that stands at this place of the code leads to its end as it is now. */
        void leadHere(int jump) {
            if (jump >= 0 && jump < codeCount) {
                args[jump] = codeCount;
            }
        }

        /** A new mark, with the code that comes next as its ex. */
        int addMark(int kind, int toy, int place) {
            int mark = Math.min(markCount, MARKS - 1);
            markKind[mark] = kind;
            markToy[mark] = toy;
            markPlace[mark] = place;
            markStart[mark] = codeCount;
            markFields[mark] = 0;
            markWord[mark] = 0;
            markCount = mark + 1;
            return mark;
        }

        int addStatement() {
            int st = Math.min(stCount, STATEMENTS - 1);
            begun[st] = false;
            stCount = st + 1;
            return st;
        }

        int addWord(long word) {
            int at = Math.min(wordCount, STATEMENTS - 1);
            words[at] = word;
            wordCount = at + 1;
            return at;
        }
    }

    /** A class of the text, with all that it has from the classes above it. */
    private static final class Toy {
        static final int FIELDS = 10;
        /** Fields as a set: bit f is of field f. */
        static final int NO_FIELDS = 0;
        static final int ALL_FIELDS = -1;
        static final int CELLS = 24;
        static final int MEMBERS = 12;
        static final int KEPT = 8;
        static final int ROW_CELLS = 8;

        long name;
        int above;
        int fields;
        final long[] fieldName;
        final int[] fieldStart;
        final int[] rowCells;
        final int[] firstNumber;
        int cells;
        int members;
        final int[] teller;
        int keptFirst;
        int keptCount;
        int model;

        Toy() {
            fieldName = new long[FIELDS];
            fieldStart = new int[FIELDS];
            rowCells = new int[FIELDS];
            firstNumber = new int[FIELDS];
            teller = new int[MEMBERS];
        }

        void beginAs(long word) {
            name = word;
            above = NONE;
            fields = 0;
            cells = 0;
            members = 0;
            keptFirst = 0;
            keptCount = 0;
            model = NONE;
        }

        void standBelow(int number, Toy upper) {
            above = number;
            fields = upper.fields;
            System.arraycopy(upper.fieldName, 0, fieldName, 0, FIELDS);
            System.arraycopy(upper.fieldStart, 0, fieldStart, 0, FIELDS);
            System.arraycopy(upper.rowCells, 0, rowCells, 0, FIELDS);
            System.arraycopy(upper.firstNumber, 0, firstNumber, 0, FIELDS);
            cells = upper.cells;
            members = upper.members;
            System.arraycopy(upper.teller, 0, teller, 0, MEMBERS);
        }

        int fieldNamed(long word) {
            for (int f = 0; f < fields; f++) {
                if (fieldName[f] == word) {
                    return f;
                }
            }
            return NONE;
        }

        boolean isRow(int field) {
            return field >= 0 && field < fields && rowCells[field] > 0;
        }

        /** A field's first CELL and how many it has, as one number for the code. */
        int spanOf(int field) {
            return field >= 0 && field < fields ? fieldStart[field] * 16 + rowCells[field] : 0;
        }

        void addField(long word, int size, int first) {
            if (fields < FIELDS) {
                fieldName[fields] = word;
                fieldStart[fields] = cells;
                rowCells[fields] = size;
                firstNumber[fields] = first;
                cells += Math.max(size, 1);
                fields++;
            }
        }

        void fillNew(int[] into) {
            for (int f = 0; f < fields; f++) {
                int behind = fieldStart[f] + Math.max(rowCells[f], 1);
                for (int k = fieldStart[f]; k < behind && k < into.length; k++) {
                    into[k] = firstNumber[f];
                }
            }
        }

        /** The first CELL that differs and is of no field among those told (a bit each); NONE. */
        int changedCell(int[] before, int[] behind, int toldFields) {
            for (int f = 0; f < fields; f++) {
                int end = fieldStart[f] + Math.max(rowCells[f], 1);
                for (int k = fieldStart[f]; k < end && (toldFields >> f & 1) == 0; k++) {
                    if (k < before.length && k < behind.length && before[k] != behind[k]) {
                        return k;
                    }
                }
            }
            return NONE;
        }
    }

    /** A member as one class tells it. */
    private static final class Telling {
        static final int PARAMS = 3;

        long name;
        int place;
        int toy;
        int params;
        final int[] low;
        final int[] high;
        boolean pure;
        int over;
        int start;
        int firstSt;
        int stCount;
        int firstMark;
        int markCount;

        Telling() {
            low = new int[PARAMS];
            high = new int[PARAMS];
        }

        boolean admits(int k, int number) {
            if (k < 0 || k >= params || k >= PARAMS) {
                return number == 0;
            }
            return number >= low[k] && number <= high[k];
        }

        /** Where an argument is least: 0, or the low end. */
        int firstOf(int k) {
            if (k < 0 || k >= PARAMS) {
                return 0;
            }
            return low[k] <= 0 && high[k] >= 0 ? 0 : low[k];
        }

        /** The number behind this one among low, 0 (between them), high; the same one behind the last. */
        int numberBehind(int k, int number) {
            if (k < 0 || k >= PARAMS) {
                return number;
            }
            if (number < 0 && number == low[k] && high[k] > 0) {
                return 0;
            }
            return high[k];
        }
    }

    /** What is there for the ex or st that is being read: the class, the member, its params and LOCALS. */
    private static final class Scope {
        static final int LOCALS = 8;
        /** Numbers from here on are slots of params and LOCALS, those below are fields. */
        static final int SLOTS = 16;

        Text text;
        Toy toy;
        int toyNumber;
        final long[] params;
        int paramCount;
        final long[] locals;
        int localCount;
        boolean asking;
        boolean inGives;

        Scope() {
            params = new long[Telling.PARAMS];
            locals = new long[LOCALS];
        }

        void leaveMember() {
            paramCount = 0;
            localCount = 0;
            asking = false;
            inGives = false;
        }

        /** The field, or the slot of the param or LOCAL, of that NAME; NONE. */
        int placeNamed(long word) {
            for (int i = 0; i < localCount; i++) {
                if (locals[i] == word) {
                    return SLOTS + Telling.PARAMS + i;
                }
            }
            for (int i = 0; i < paramCount; i++) {
                if (params[i] == word) {
                    return SLOTS + i;
                }
            }
            return toy.fieldNamed(word);
        }
    }

    /**
     * Reads an ex into code. What is open (signs, operators that wait for their right side, brackets)
     * lies on a pile, and beside it the HEIGHTS of what is whole: so no reading calls itself.
     */
    private static final class Expressions {
        static final int OPEN = 40;
        static final int HIGHEST = 12;
        static final int PILE = 300;

        static final int GROUP = 1;
        static final int CALLED = 2;
        static final int CALLED_ABOVE = 3;
        static final int INDEX = 4;
        static final int OLD_INDEX = 5;
        static final int NEGATED = 6;
        static final int DENIED = 7;

        private final Tokens tokens;
        private final Scope scope;
        private Text text;
        private final int[] kindOf;
        private final int[] placeOf;
        private final int[] targetOf;
        private final int[] givenOf;
        private final int[] highOf;
        private int pile;
        private final int[] heights;
        private int wholeParts;
        private int open;
        private boolean wanted;
        private boolean whole;

        Expressions(Tokens readTokens, Scope readScope) {
            tokens = readTokens;
            scope = readScope;
            kindOf = new int[PILE];
            placeOf = new int[PILE];
            targetOf = new int[PILE];
            givenOf = new int[PILE];
            highOf = new int[PILE];
            heights = new int[PILE];
        }

        /** Reads one ex; the reading stands at the TOKEN behind it then. */
        void read() {
            text = scope.text;
            pile = 0;
            wholeParts = 0;
            open = 0;
            wanted = true;
            whole = false;
            for (int i = 0; i <= 2 * Tokens.MOST && !whole && tokens.faultKind == 0; i++) {
                int kind = tokens.kind();
                if (!wanted) {
                    readBehind(kind);
                } else if (kind == Tokens.NAME) {
                    readName();
                } else if (kind == Tokens.NUMBER) {
                    readNumber();
                } else if (kind == '(' || kind == '-' || kind == '!') {
                    openSign(kind);
                } else if (kind == Tokens.ABOVE) {
                    readAbove();
                } else if (kind == Tokens.SIZE) {
                    readSize();
                } else if (kind == Tokens.OLD && scope.inGives) {
                    readOld();
                } else if (kind == Tokens.RESULT && scope.inGives) {
                    readResult();
                } else {
                    tokens.fail(Tokens.SYNTAX, tokens.place());
                }
            }
        }

        private void push(int kind, int place, int target) {
            if (pile < PILE) {
                kindOf[pile] = kind;
                placeOf[pile] = place;
                targetOf[pile] = target;
                givenOf[pile] = 0;
                highOf[pile] = 0;
                pile++;
            }
        }

        private void addWhole(int height) {
            if (wholeParts < PILE) {
                heights[wholeParts] = height;
                wholeParts++;
            }
            wanted = false;
        }

        private int takeHeight() {
            if (wholeParts > 0) {
                wholeParts--;
            }
            return heights[wholeParts];
        }

        private void readNumber() {
            text.emit(Machine.NUMBER, (int) tokens.value());
            text.partCount++;
            tokens.next();
            addWhole(1);
        }

        private void readResult() {
            text.emit(Machine.RESULT, 0);
            text.partCount++;
            tokens.next();
            addWhole(1);
        }

        private void openSign(int kind) {
            if (open >= OPEN) {
                tokens.fail(Tokens.ROOM, tokens.place());
            }
            int sign = kind == '-' ? NEGATED : DENIED;
            push(kind == '(' ? GROUP : sign, tokens.place(), 0);
            text.partCount += kind == '(' ? 0 : 1;
            open++;
            tokens.next();
        }

        private void readName() {
            long word = tokens.value();
            int place = tokens.place();
            tokens.next();
            if (tokens.atBracket()) {
                int k = text.memberNamed(scope.toy, word);
                if (k == NONE) {
                    tokens.fail(Tokens.NAMING, place);
                    return;
                }
                Telling telling = text.tellings[scope.toy.teller[k]];
                if (scope.asking && !telling.pure) {
                    tokens.fail(Tokens.SORT, place);
                }
                openCall(CALLED, place, k, telling.params);
                return;
            }
            int found = scope.placeNamed(word);
            if (found == NONE) {
                tokens.fail(Tokens.NAMING, place);
                return;
            }
            text.partCount++;
            if (scope.toy.isRow(found) != (tokens.kind() == '[')) {
                tokens.fail(Tokens.SORT, place);
            } else if (scope.toy.isRow(found)) {
                openIndex(INDEX, place, found);
            } else if (found >= Scope.SLOTS) {
                text.emit(Machine.LOCAL, found - Scope.SLOTS);
                addWhole(1);
            } else {
                text.emit(Machine.FIELD, scope.toy.spanOf(found));
                addWhole(1);
            }
        }

        private void openIndex(int kind, int place, int field) {
            if (open >= OPEN) {
                tokens.fail(Tokens.ROOM, tokens.place());
            }
            push(kind, place, scope.toy.spanOf(field));
            open++;
            tokens.next();
        }

        /** Opens a call at its ( ; one of a member without params is whole at once. */
        private void openCall(int kind, int place, int target, int params) {
            int bracket = tokens.place();
            if (open >= OPEN) {
                tokens.fail(Tokens.ROOM, bracket);
            }
            text.partCount++;
            tokens.next();
            int closing = tokens.place();
            boolean closes = tokens.kind() == ')';
            if (params == 0 && !closes) {
                tokens.fail(Tokens.ARGUMENTS, bracket);
            }
            if (!closes) {
                push(kind, place, target);
                open++;
                return;
            }
            tokens.next();
            if (params > 0) {
                tokens.fail(Tokens.ARGUMENTS, closing);
            }
            text.emit(Machine.TICK, 0);
            text.emit(kind == CALLED ? Machine.CALL : Machine.CALL_ABOVE, target);
            addWhole(1);
        }

        private void readAbove() {
            int start = tokens.place();
            tokens.next();
            if (!text.hasClass(scope.toy.above)) {
                tokens.fail(Tokens.SORT, start);
                return;
            }
            Toy upper = text.toys[scope.toy.above];
            tokens.take('.');
            int place = tokens.place();
            if (tokens.kind() != Tokens.NAME) {
                tokens.fail(Tokens.SYNTAX, place);
                return;
            }
            int k = text.memberNamed(upper, tokens.value());
            if (k == NONE) {
                tokens.fail(Tokens.NAMING, place);
                return;
            }
            tokens.next();
            int told = upper.teller[k];
            if (scope.asking && !text.tellings[told].pure) {
                tokens.fail(Tokens.SORT, place);
            }
            if (tokens.kind() != '(') {
                tokens.fail(Tokens.SYNTAX, tokens.place());
                return;
            }
            openCall(CALLED_ABOVE, place, told, text.tellings[told].params);
        }

        /** Goes on behind the ( of old or size, which is open too. */
        private void takeBracket() {
            if (tokens.kind() != '(') {
                tokens.fail(Tokens.SYNTAX, tokens.place());
            } else if (open >= OPEN) {
                tokens.fail(Tokens.ROOM, tokens.place());
            }
            tokens.next();
            if (tokens.kind() != Tokens.NAME) {
                tokens.fail(Tokens.SYNTAX, tokens.place());
            }
        }

        private void readSize() {
            tokens.next();
            takeBracket();
            int place = tokens.place();
            int found = scope.placeNamed(tokens.value());
            if (found == NONE) {
                tokens.fail(Tokens.NAMING, place);
                return;
            }
            tokens.next();
            if (!scope.toy.isRow(found)) {
                tokens.fail(Tokens.SORT, place);
                return;
            }
            tokens.take(')');
            text.emit(Machine.NUMBER, scope.toy.rowCells[found]);
            text.partCount++;
            addWhole(1);
        }

        private void readOld() {
            int start = tokens.place();
            tokens.next();
            takeBracket();
            int place = tokens.place();
            int found = scope.placeNamed(tokens.value());
            tokens.next();
            if (found == NONE) {
                tokens.fail(Tokens.NAMING, place);
                return;
            }
            boolean row = scope.toy.isRow(found);
            if (found >= Scope.SLOTS || row != (tokens.kind() == '[')) {
                tokens.fail(Tokens.SORT, place);
                return;
            }
            text.partCount += 2;
            if (row) {
                open++;
                openIndex(OLD_INDEX, place, found);
                highOf[Math.max(pile - 1, 0)] = start;
                return;
            }
            tokens.take(')');
            text.emit(Machine.OLD_FIELD, scope.toy.spanOf(found));
            addWhole(2);
        }

        /** Looks at the TOKEN behind something whole: all that it makes whole is closed first. */
        private void readBehind(int kind) {
            int level = levelOf(kind);
            closeParts(Math.max(level, 1));
            if (tokens.faultKind != 0) {
                return;
            }
            if (level > 0) {
                openOperator(kind);
            } else if (pile == 0) {
                whole = true;
            } else if (kindOf[pile - 1] == GROUP && kind == ')') {
                pile--;
                open--;
                tokens.next();
            } else if ((kindOf[pile - 1] == INDEX || kindOf[pile - 1] == OLD_INDEX) && kind == ']') {
                closeIndex();
            } else if (kindOf[pile - 1] == CALLED || kindOf[pile - 1] == CALLED_ABOVE) {
                closeArgument(kind);
            } else {
                tokens.fail(Tokens.SYNTAX, tokens.place());
            }
        }

        /** How fast an operator binds; 0 of what is none. */
        private static int levelOf(int kind) {
            switch (kind) {
                case Tokens.OR: return 1;
                case Tokens.AND: return 2;
                case Tokens.SAME: case Tokens.OTHER: return 3;
                case Tokens.AT_MOST: case Tokens.AT_LEAST: case '<': case '>': return 3;
                case '+': case '-': return 4;
                case '*': case '/': case '%': return 5;
                default: return 0;
            }
        }

        private void openOperator(int kind) {
            int jump = text.codeCount;
            if (kind == Tokens.AND) {
                text.emit(Machine.AND, 0);
            } else if (kind == Tokens.OR) {
                text.emit(Machine.OR, 0);
            }
            push(kind, tokens.place(), jump);
            text.partCount++;
            tokens.next();
            wanted = true;
        }

        /** Closes the signs and operators on the pile that bind at least as fast as this level. */
        private void closeParts(int level) {
            boolean closing = true;
            for (int i = 0; i < PILE && closing && pile > 0; i++) {
                int kind = kindOf[pile - 1];
                boolean sign = kind == NEGATED || kind == DENIED;
                closing = sign || levelOf(kind) >= level;
                if (closing) {
                    pile--;
                    int high = takeHeight();
                    if (sign) {
                        open--;
                        text.emit(kind == NEGATED ? Machine.NEGATE : Machine.DENY, 0);
                    } else if (kind == Tokens.AND || kind == Tokens.OR) {
                        text.emit(Machine.TRUTH, 0);
                        text.leadHere(targetOf[pile]);
                    } else {
                        text.emit(kind, 0);
                    }
                    high = 1 + (sign ? high : Math.max(high, takeHeight()));
                    addWhole(high);
                    if (high > HIGHEST) {
                        tokens.fail(Tokens.HEIGHT, placeOf[pile]);
                    }
                }
            }
        }

        private void closeIndex() {
            tokens.next();
            pile--;
            open--;
            boolean old = kindOf[pile] == OLD_INDEX;
            int high = takeHeight() + 1;
            if (high > HIGHEST) {
                tokens.fail(Tokens.HEIGHT, placeOf[pile]);
            }
            text.emit(old ? Machine.OLD_CELL : Machine.CELL, targetOf[pile]);
            if (old) {
                if (tokens.kind() != ')') {
                    tokens.fail(Tokens.SYNTAX, tokens.place());
                }
                tokens.next();
                open--;
                high++;
            }
            if (high > HIGHEST) {
                tokens.fail(Tokens.HEIGHT, highOf[pile]);
            }
            addWhole(high);
        }

        private void closeArgument(int kind) {
            int call = pile - 1;
            int target = targetOf[call];
            int told = kindOf[call] == CALLED ? scope.toy.teller[target] : target;
            int place = tokens.place();
            if (kind != ',' && kind != ')') {
                tokens.fail(Tokens.SYNTAX, place);
                return;
            }
            tokens.next();
            givenOf[call]++;
            highOf[call] = Math.max(highOf[call], takeHeight());
            int params = text.tellings[told].params;
            if (kind == ',') {
                wanted = true;
                if (givenOf[call] >= params) {
                    tokens.fail(Tokens.ARGUMENTS, place);
                }
                return;
            }
            if (givenOf[call] < params) {
                tokens.fail(Tokens.ARGUMENTS, place);
            }
            pile--;
            open--;
            if (highOf[call] + 1 > HIGHEST) {
                tokens.fail(Tokens.HEIGHT, placeOf[call]);
            }
            text.emit(Machine.TICK, 0);
            text.emit(kindOf[call] == CALLED ? Machine.CALL : Machine.CALL_ABOVE, target);
            addWhole(highOf[call] + 1);
        }
    }

    /** Reads a text: classes, fields, kept, members with their marks, and the st of their blocks. */
    private static final class Reader {
        static final int MARKS = 8;
        static final int BLOCKS = 8;
        static final int STATEMENTS = 40;

        static final int BODY = 0;
        static final int IF_BLOCK = 1;
        static final int ELSE_BLOCK = 2;
        static final int WHILE_BLOCK = 3;

        private final Tokens tokens;
        private final Scope scope;
        private final Expressions expressions;
        private Text text;
        private Toy toy;
        private Telling telling;
        private boolean narrowed;
        private final int[] blockKind;
        private final int[] blockJump;
        private final int[] blockStart;
        private final int[] blockLocals;
        private int blocks;
        private int callOp;
        private int callTarget;
        private int callParams;
        private int placeFound;

        Reader() {
            tokens = new Tokens();
            scope = new Scope();
            expressions = new Expressions(tokens, scope);
            blockKind = new int[BLOCKS];
            blockJump = new int[BLOCKS];
            blockStart = new int[BLOCKS];
            blockLocals = new int[BLOCKS];
        }

        void begin(byte[] tape, int length, Text into) {
            tokens.takeApart(tape, length);
            text = into;
            text.wipe();
            toy = text.toys[0];
            telling = text.tellings[0];
            scope.text = into;
            scope.toy = toy;
            scope.leaveMember();
            blocks = 0;
        }

        boolean atClass() {
            return tokens.kind() == Tokens.CLASS;
        }

        /** Nothing may stand behind the last class; a 1201st TOKEN that was taken is told here at last. */
        void finish() {
            tokens.take(Tokens.END);
        }

        int faultKind() {
            return tokens.faultKind;
        }

        int faultPlace() {
            return tokens.faultPlace;
        }

        void readClass() {
            readClassHead();
            for (int i = 0; i <= Toy.FIELDS && tokens.kind() == Tokens.INT; i++) {
                readField();
            }
            for (int i = 0; i <= Toy.KEPT && tokens.kind() == Tokens.KEPT; i++) {
                readKept();
            }
            for (int i = 0; i <= Toy.MEMBERS && tokens.kind() == Tokens.MEMBER; i++) {
                readMemberHead();
                for (int k = 0; k <= MARKS && atMark(); k++) {
                    readMark();
                }
                openBody();
                for (int k = 0; k <= Tokens.MOST && blocks > 0 && tokens.faultKind == 0; k++) {
                    readStatement();
                }
                scope.leaveMember();
            }
            tokens.take('}');
            if (tokens.faultKind == 0) {
                text.classCount++;
            }
        }

        private void readClassHead() {
            tokens.take(Tokens.CLASS);
            int place = tokens.place();
            long word = tokens.value();
            if (tokens.kind() != Tokens.NAME) {
                tokens.fail(Tokens.SYNTAX, place);
            } else if (text.classNamed(word) != NONE) {
                tokens.fail(Tokens.NAMING, place);
            } else if (text.classCount >= Text.CLASSES) {
                tokens.fail(Tokens.ROOM, place);
            } else {
                toy = text.toys[text.classCount];
                toy.beginAs(word);
                toy.keptFirst = text.markCount;
                scope.toy = toy;
                scope.toyNumber = text.classCount;
            }
            tokens.next();
            if (tokens.kind() == Tokens.ABOVE) {
                readClassAbove();
            }
            tokens.take('{');
        }

        private void readClassAbove() {
            tokens.next();
            int place = tokens.place();
            int upper = text.classNamed(tokens.value());
            if (tokens.kind() != Tokens.NAME) {
                tokens.fail(Tokens.SYNTAX, place);
            } else if (upper == NONE) {
                tokens.fail(Tokens.NAMING, place);
            } else {
                toy.standBelow(upper, text.toys[upper]);
            }
            tokens.next();
        }

        private void readField() {
            tokens.next();
            int place = tokens.place();
            long word = tokens.value();
            if (tokens.kind() != Tokens.NAME) {
                tokens.fail(Tokens.SYNTAX, place);
            } else if (toy.fieldNamed(word) != NONE) {
                tokens.fail(Tokens.NAMING, place);
            } else if (toy.fields >= Toy.FIELDS) {
                tokens.fail(Tokens.ROOM, place);
            }
            tokens.next();
            int size = 0;
            if (tokens.kind() == '[') {
                size = readRowSize();
            } else if (toy.cells >= Toy.CELLS) {
                tokens.fail(Tokens.ROOM, place);
            }
            int first = 0;
            if (tokens.kind() == '=') {
                tokens.next();
                first = readNumber(Integer.MIN_VALUE);
            }
            tokens.take(';');
            if (tokens.faultKind == 0) {
                toy.addField(word, size, first);
            }
        }

        private int readRowSize() {
            tokens.next();
            int place = tokens.place();
            int size = (int) Math.min(tokens.value(), Toy.CELLS + 1);
            if (tokens.kind() != Tokens.NUMBER) {
                tokens.fail(Tokens.SYNTAX, place);
            } else if (size < 1 || size > Toy.ROW_CELLS) {
                tokens.fail(Tokens.SPAN, place);
            } else if (toy.cells + size > Toy.CELLS) {
                tokens.fail(Tokens.ROOM, place);
            }
            tokens.next();
            tokens.take(']');
            return size;
        }

        /** Reads a num; SPAN when it is below the least that may stand there. */
        private int readNumber(int least) {
            boolean negative = tokens.kind() == '-';
            if (negative) {
                tokens.next();
            }
            int number = negative ? (int) -tokens.value() : (int) tokens.value();
            if (tokens.kind() != Tokens.NUMBER) {
                tokens.fail(Tokens.SYNTAX, tokens.place());
            } else if (number < least) {
                tokens.fail(Tokens.SPAN, tokens.place());
            }
            tokens.next();
            return number;
        }

        private void readKept() {
            if (toy.keptCount >= Toy.KEPT) {
                tokens.fail(Tokens.ROOM, tokens.place());
            }
            tokens.next();
            toy.keptCount++;
            text.addMark(Text.KEPT, scope.toyNumber, tokens.place());
            readAsked(false);
            tokens.take(';');
        }

        private void readAsked(boolean gives) {
            scope.asking = true;
            scope.inGives = gives;
            expressions.read();
            scope.asking = false;
            scope.inGives = false;
            text.emit(Machine.RETURN, 0);
        }

        private void readMemberHead() {
            tokens.next();
            int place = tokens.place();
            long word = tokens.value();
            int k = text.memberNamed(toy, word);
            int over = k == NONE ? NONE : toy.teller[k];
            if (tokens.kind() != Tokens.NAME) {
                tokens.fail(Tokens.SYNTAX, place);
            } else if (over != NONE && text.tellings[over].toy == scope.toyNumber) {
                tokens.fail(Tokens.NAMING, place);
            } else if (over == NONE && toy.members >= Toy.MEMBERS) {
                tokens.fail(Tokens.ROOM, place);
            } else {
                beginTelling(word, place, k);
            }
            tokens.next();
            tokens.take('(');
            boolean more = tokens.kind() != ')';
            for (int i = 0; i <= Telling.PARAMS && more; i++) {
                readParam();
                more = tokens.kind() == ',';
                if (more) {
                    tokens.next();
                }
            }
            int closing = tokens.place();
            tokens.take(')');
            if (over != NONE && text.tellings[over].params != telling.params) {
                tokens.fail(Tokens.SORT, closing);
            }
        }

        private void beginTelling(long word, int place, int overridden) {
            int told = Math.min(text.tellingCount, Text.TELLINGS - 1);
            text.tellingCount = told + 1;
            int k = overridden == NONE ? toy.members : overridden;
            telling = text.tellings[told];
            telling.name = word;
            telling.place = place;
            telling.toy = scope.toyNumber;
            telling.params = 0;
            telling.pure = false;
            telling.over = overridden == NONE ? NONE : toy.teller[k];
            telling.start = 0;
            telling.firstSt = text.stCount;
            telling.stCount = 0;
            telling.firstMark = text.markCount;
            telling.markCount = 0;
            toy.teller[k] = told;
            toy.members = Math.max(toy.members, k + 1);
            narrowed = false;
        }

        private void readParam() {
            int place = tokens.place();
            long word = tokens.value();
            int n = telling.params;
            if (tokens.kind() != Tokens.NAME) {
                tokens.fail(Tokens.SYNTAX, place);
            } else if (scope.placeNamed(word) != NONE) {
                tokens.fail(Tokens.NAMING, place);
            } else if (n >= Telling.PARAMS) {
                tokens.fail(Tokens.ROOM, place);
            }
            tokens.next();
            tokens.take(Tokens.IN);
            int low = readNumber(Integer.MIN_VALUE);
            tokens.take(Tokens.TO);
            int high = readNumber(low);
            if (tokens.faultKind == 0 && n < Telling.PARAMS) {
                scope.params[n] = word;
                scope.paramCount = n + 1;
                telling.low[n] = low;
                telling.high[n] = high;
                telling.params = n + 1;
            }
        }

        private boolean atMark() {
            int kind = tokens.kind();
            return kind == Tokens.NEEDS || kind == Tokens.GIVES || kind == Tokens.THROWS
                || kind == Tokens.ONLY || kind == Tokens.PURE;
        }

        private void readMark() {
            int kind = tokens.kind();
            int place = tokens.place();
            if (telling.markCount >= MARKS) {
                tokens.fail(Tokens.ROOM, place);
            }
            tokens.next();
            if (kind == Tokens.ONLY || kind == Tokens.PURE) {
                if (narrowed) {
                    tokens.fail(Tokens.SORT, place);
                }
                narrowed = true;
            }
            telling.markCount++;
            switch (kind) {
                case Tokens.NEEDS:
                    text.addMark(Text.NEEDS, scope.toyNumber, tokens.place());
                    readAsked(false);
                    break;
                case Tokens.GIVES:
                    text.addMark(Text.GIVES, scope.toyNumber, tokens.place());
                    readAsked(true);
                    break;
                case Tokens.THROWS:
                    if (readThrownWord()) {
                        readAsked(false);
                    }
                    break;
                case Tokens.ONLY:
                    readOnly();
                    break;
                default:
                    text.addMark(Text.PURE, scope.toyNumber, place);
                    telling.pure = true;
                    break;
            }
            tokens.take(';');
        }

        /** Reads the WORD of a throws: whether a when with its ex comes behind. */
        private boolean readThrownWord() {
            int mark = text.addMark(Text.THROWS, scope.toyNumber, tokens.place());
            text.markWord[mark] = tokens.value();
            tokens.take(Tokens.NAME);
            if (tokens.kind() != Tokens.WHEN) {
                text.markStart[mark] = NONE;
                return false;
            }
            tokens.next();
            text.markPlace[mark] = tokens.place();
            return true;
        }

        private void readOnly() {
            int mark = text.addMark(Text.ONLY, scope.toyNumber, tokens.place());
            boolean more = true;
            for (int i = 0; i <= Tokens.MOST && more; i++) {
                int field = toy.fieldNamed(tokens.value());
                if (tokens.kind() != Tokens.NAME) {
                    tokens.fail(Tokens.SYNTAX, tokens.place());
                } else if (field == NONE) {
                    tokens.fail(Tokens.NAMING, tokens.place());
                } else {
                    text.markFields[mark] |= 1 << field;
                }
                tokens.next();
                more = tokens.kind() == ',';
                if (more) {
                    tokens.next();
                }
            }
        }

        private void openBody() {
            int place = tokens.place();
            blocks = 0;
            telling.start = text.codeCount;
            openBlock(BODY, NONE, NONE);
            int over = telling.over;
            if (over >= 0 && over < text.tellingCount && text.tellings[over].pure && !telling.pure) {
                tokens.fail(Tokens.SORT, place);
            }
        }

        private void openBlock(int kind, int jump, int start) {
            if (tokens.kind() != '{') {
                tokens.fail(Tokens.SYNTAX, tokens.place());
            } else if (blocks >= BLOCKS) {
                tokens.fail(Tokens.ROOM, tokens.place());
            } else {
                blockKind[blocks] = kind;
                blockJump[blocks] = jump;
                blockStart[blocks] = start;
                blockLocals[blocks] = scope.localCount;
                blocks++;
                tokens.next();
            }
        }

        private void closeBlock() {
            tokens.next();
            blocks = Math.max(blocks - 1, 0);
            scope.localCount = blockLocals[blocks];
            int jump = blockJump[blocks];
            if (blockKind[blocks] == BODY) {
                text.emit(Machine.END, 0);
                return;
            }
            if (blockKind[blocks] == WHILE_BLOCK) {
                text.emit(Machine.JUMP, blockStart[blocks]);
            }
            boolean otherwise = blockKind[blocks] == IF_BLOCK && tokens.kind() == Tokens.ELSE;
            int leap = text.codeCount;
            if (otherwise) {
                text.emit(Machine.JUMP, 0);
            }
            text.leadHere(jump);
            if (otherwise) {
                tokens.next();
                openBlock(ELSE_BLOCK, leap, NONE);
            }
        }

        private static boolean startsStatement(int kind) {
            return kind == Tokens.NAME || kind == Tokens.ABOVE
                || (kind >= Tokens.LET && kind <= Tokens.THROW && kind != Tokens.ELSE);
        }

        /** Reads a st, or the } behind the last one of a block. */
        private void readStatement() {
            int kind = tokens.kind();
            if (kind == '}') {
                closeBlock();
                return;
            }
            if (!startsStatement(kind)) {
                tokens.fail(Tokens.SYNTAX, tokens.place());
            } else if (telling.stCount >= STATEMENTS) {
                refuseStatement();
            }
            telling.stCount++;
            text.emit(Machine.STEP, text.addStatement());
            switch (kind) {
                case Tokens.LET: readLet(); break;
                case Tokens.IF: case Tokens.WHILE: readTest(kind); break;
                case Tokens.RETURN: readReturn(); break;
                case Tokens.THROW: readThrow(); break;
                default:
                    if (kind == Tokens.ABOVE ? findAbove() : findNamed()) {
                        readArguments();
                    } else {
                        readAssignment();
                    }
                    break;
            }
        }

        /** ROOM at the st's first TOKEN; but if that is a NAME which isn't there, this is the lesser KIND. */
        private void refuseStatement() {
            int place = tokens.place();
            if (tokens.kind() == Tokens.NAME) {
                long word = tokens.value();
                tokens.next();
                int found = tokens.atBracket() ? text.memberNamed(toy, word) : scope.placeNamed(word);
                tokens.fail(found == NONE ? Tokens.NAMING : Tokens.ROOM, place);
            } else {
                tokens.fail(Tokens.ROOM, place);
            }
        }

        private void readLet() {
            tokens.next();
            int place = tokens.place();
            long word = tokens.value();
            int n = scope.localCount;
            if (tokens.kind() != Tokens.NAME) {
                tokens.fail(Tokens.SYNTAX, place);
            } else if (scope.placeNamed(word) != NONE) {
                tokens.fail(Tokens.NAMING, place);
            } else if (n >= Scope.LOCALS) {
                tokens.fail(Tokens.ROOM, place);
            } else {
                scope.locals[n] = word;
                scope.localCount = n + 1;
            }
            tokens.next();
            tokens.take('=');
            text.emit(Machine.ZERO, Telling.PARAMS + n);
            expressions.read();
            text.emit(Machine.SET_LOCAL, Telling.PARAMS + n);
            tokens.take(';');
        }

        private void readTest(int kind) {
            tokens.next();
            int start = text.codeCount;
            if (kind == Tokens.WHILE) {
                text.emit(Machine.TICK, 0);
            }
            expressions.read();
            int jump = text.codeCount;
            text.emit(Machine.JUMP_IF_NOT, 0);
            openBlock(kind == Tokens.WHILE ? WHILE_BLOCK : IF_BLOCK, jump, start);
        }

        private void readReturn() {
            tokens.next();
            expressions.read();
            text.emit(Machine.RETURN, 0);
            tokens.take(';');
        }

        private void readThrow() {
            tokens.next();
            text.emit(Machine.THROW, text.addWord(tokens.value()));
            tokens.take(Tokens.NAME);
            tokens.take(';');
        }

        /** Finds the member that a st calls by above. ; the reading stands at its ( then. */
        private boolean findAbove() {
            int start = tokens.place();
            tokens.next();
            if (!text.hasClass(toy.above)) {
                tokens.fail(Tokens.SORT, start);
                return true;
            }
            Toy upper = text.toys[toy.above];
            tokens.take('.');
            int k = text.memberNamed(upper, tokens.value());
            if (tokens.kind() != Tokens.NAME) {
                tokens.fail(Tokens.SYNTAX, tokens.place());
            } else if (k == NONE) {
                tokens.fail(Tokens.NAMING, tokens.place());
            } else {
                callOp = Machine.CALL_ABOVE;
                callTarget = upper.teller[k];
                callParams = text.tellings[callTarget].params;
            }
            tokens.next();
            return true;
        }

        /** Finds the member or the place with which a st begins: true if it is a member. */
        private boolean findNamed() {
            int start = tokens.place();
            long word = tokens.value();
            tokens.next();
            boolean calls = tokens.atBracket();
            int found = calls ? text.memberNamed(toy, word) : scope.placeNamed(word);
            if (found == NONE) {
                tokens.fail(Tokens.NAMING, start);
            } else if (calls) {
                callOp = Machine.CALL;
                callTarget = found;
                callParams = text.tellings[toy.teller[found]].params;
            } else if (toy.isRow(found) != (tokens.kind() == '[')) {
                tokens.fail(Tokens.SORT, start);
            }
            placeFound = found;
            return calls;
        }

        private void readArguments() {
            int bracket = tokens.place();
            tokens.take('(');
            if (callParams == 0 && tokens.kind() != ')') {
                tokens.fail(Tokens.ARGUMENTS, bracket);
            }
            int given = 0;
            boolean more = tokens.kind() != ')';
            for (int i = 0; i <= Telling.PARAMS && more && tokens.faultKind == 0; i++) {
                expressions.read();
                given++;
                more = tokens.kind() == ',';
                if (more) {
                    int comma = tokens.place();
                    tokens.next();
                    if (given >= callParams) {
                        tokens.fail(Tokens.ARGUMENTS, comma);
                    }
                }
            }
            int closing = tokens.place();
            tokens.take(')');
            if (given < callParams) {
                tokens.fail(Tokens.ARGUMENTS, closing);
            }
            text.emit(callOp, callTarget);
            text.emit(Machine.DROP, 0);
            tokens.take(';');
        }

        private void readAssignment() {
            int found = placeFound;
            boolean row = toy.isRow(found);
            if (row) {
                tokens.take('[');
                expressions.read();
                tokens.take(']');
                text.emit(Machine.CHECK, toy.spanOf(found));
            }
            tokens.take('=');
            expressions.read();
            if (found >= Scope.SLOTS) {
                text.emit(Machine.SET_LOCAL, found - Scope.SLOTS);
            } else {
                text.emit(row ? Machine.SET_CELL : Machine.SET_FIELD, toy.spanOf(found));
            }
            tokens.take(';');
        }
    }

    /** Works code out, on one object at a time, until it gives a number or breaks off. */
    private static final class Machine {
        static final int STEPS = 300;
        static final int NESTED = 20;
        static final int SLOTS = 11;
        static final int STACK = 700;
        /** Far above what 300 STEPS can take: between two of them no code is worked out twice. */
        static final int TURNS = 1000000;

        static final int GOING = 0;
        static final int GAVE = 1;
        static final int THREW = 2;
        static final int SPENT = 3;
        static final int IMPURE = 4;

        // go() tells codes apart by their order: those that put a number on the stack, that turn one, that
        // take none, that use one up; above them are SET_CELL and the operators, which take two.
        static final int NUMBER = 1;
        static final int LOCAL = 2;
        static final int FIELD = 3;
        static final int OLD_FIELD = 4;
        static final int RESULT = 5;
        static final int NEGATE = 6;
        static final int DENY = 7;
        static final int TRUTH = 8;
        static final int CELL = 9;
        static final int OLD_CELL = 10;
        static final int CHECK = 11;
        static final int STEP = 12;
        static final int TICK = 13;
        static final int ZERO = 14;
        static final int JUMP = 15;
        static final int THROW = 16;
        static final int CALL = 17;
        static final int CALL_ABOVE = 18;
        static final int END = 19;
        static final int SET_LOCAL = 20;
        static final int SET_FIELD = 21;
        static final int DROP = 22;
        static final int JUMP_IF_NOT = 23;
        static final int AND = 24;
        static final int OR = 25;
        static final int RETURN = 26;
        static final int SET_CELL = 27;

        /** The WORDS zero and index, packed as Tokens packs them. */
        static final long ZERO_WORD = ((26L * 38 + 5) * 38 + 18) * 38 + 15;
        static final long INDEX_WORD = (((9L * 38 + 14) * 38 + 4) * 38 + 5) * 38 + 24;

        private Text text;
        private Toy toy;
        private int[] cells;
        private int[] before;
        private int[] given;
        private boolean asking;
        private int result;
        private final int[] stack;
        private int depth;
        private final int[] slots;
        private final int[] backs;
        private int nest;
        private int ground;
        private int pc;
        private int steps;
        int outcome;
        int answer;
        long word;

        Machine() {
            stack = new int[STACK];
            slots = new int[(NESTED + 1) * SLOTS];
            backs = new int[NESTED + 1];
            cells = stack;
            before = stack;
            given = stack;
        }

        /** On which object, with what it was ahead of the call, and with which arguments. */
        void standOn(Text ofText, Toy ofToy, int[] now, int[] ahead, int[] arguments) {
            text = ofText;
            toy = ofToy;
            cells = now;
            before = ahead;
            given = arguments;
        }

        /** Ahead of a condition; what it calls is the first member, within no other. */
        void readyToAsk(int start, int gave) {
            asking = true;
            result = gave;
            ground = 0;
            pc = start;
        }

        void readyToCall(Telling telling) {
            asking = false;
            result = 0;
            ground = 1;
            pc = telling.start;
        }

        void go() {
            begin();
            for (int i = 0; i < TURNS && outcome == GOING; i++) {
                boolean there = pc >= 0 && pc < text.codeCount;
                int op = there ? text.ops[pc] : END;
                int arg = there ? text.args[pc] : 0;
                pc++;
                if (op <= RESULT) {
                    push(fetch(op, arg));
                } else if (op <= CHECK) {
                    push(turn(op, arg, pop()));
                } else if (op <= THROW) {
                    act(op, arg);
                } else if (op == CALL) {
                    enter(arg < toy.members ? toy.teller[arg] : NONE);
                } else if (op == CALL_ABOVE) {
                    enter(arg);
                } else if (op == END) {
                    leave(0);
                } else if (op == RETURN) {
                    leave(pop());
                } else if (op <= OR) {
                    use(op, arg, pop());
                } else {
                    int right = pop();
                    int left = pop();
                    if (op == SET_CELL) {
                        setCell(arg, left, right);
                    } else {
                        push(reckon(op, left, right));
                    }
                }
            }
            outcome = outcome == GOING ? SPENT : outcome;
        }

        private void begin() {
            nest = ground;
            depth = 0;
            steps = 0;
            outcome = GOING;
            answer = 0;
            for (int k = 0; k < Telling.PARAMS && k < given.length; k++) {
                slots[nest * SLOTS + k] = given[k];
            }
        }

        private void push(int number) {
            if (depth < STACK) {
                stack[depth] = number;
                depth++;
            }
        }

        private int pop() {
            if (depth == 0) {
                return 0;
            }
            depth--;
            return stack[depth];
        }

        private int fetch(int op, int arg) {
            int cell = arg >> 4;
            switch (op) {
                case NUMBER: return arg;
                case LOCAL: return slots[nest * SLOTS + arg];
                case FIELD: return cell < cells.length ? cells[cell] : 0;
                case OLD_FIELD: return cell < before.length ? before[cell] : 0;
                default: return result;
            }
        }

        /** What comes of one number: its sign, its truth, or the CELL of a ROW that it names. */
        private int turn(int op, int arg, int number) {
            if (op == NEGATE) {
                return -number;
            }
            if (op == DENY) {
                return number == 0 ? 1 : 0;
            }
            if (op == TRUTH) {
                return number == 0 ? 0 : 1;
            }
            if (number < 0 || number >= (arg & 15)) {
                outcome = THREW;
                word = INDEX_WORD;
                return 0;
            }
            int cell = (arg >> 4) + number;
            if (op == CHECK || cell >= cells.length || cell >= before.length) {
                return number;
            }
            return op == CELL ? cells[cell] : before[cell];
        }

        private int reckon(int op, int left, int right) {
            switch (op) {
                case '+': return left + right;
                case '-': return left - right;
                case '*': return left * right;
                case '<': return left < right ? 1 : 0;
                case '>': return left > right ? 1 : 0;
                case Tokens.SAME: return left == right ? 1 : 0;
                case Tokens.OTHER: return left != right ? 1 : 0;
                case Tokens.AT_MOST: return left <= right ? 1 : 0;
                case Tokens.AT_LEAST: return left >= right ? 1 : 0;
                default: break;
            }
            if (right == 0) {
                outcome = THREW;
                word = ZERO_WORD;
                return 0;
            }
            return op == '/' ? left / right : left % right;
        }

        private void act(int op, int arg) {
            if (op == STEP && arg >= 0 && arg < text.stCount) {
                text.begun[arg] = true;
            }
            if (op == STEP || op == TICK) {
                steps++;
                outcome = steps > STEPS ? SPENT : outcome;
            } else if (op == ZERO) {
                slots[nest * SLOTS + arg] = 0;
            } else if (op == JUMP) {
                pc = arg;
            } else if (op == THROW && arg >= 0 && arg < text.wordCount) {
                outcome = THREW;
                word = text.words[arg];
            }
        }

        /** Uses up one number. */
        private void use(int op, int arg, int number) {
            if (op == SET_LOCAL) {
                slots[nest * SLOTS + arg] = number;
            } else if (op == SET_FIELD && asking) {
                outcome = IMPURE;
            } else if (op == SET_FIELD && arg >> 4 < cells.length) {
                cells[arg >> 4] = number;
            } else if (op == JUMP_IF_NOT && number == 0) {
                pc = arg;
            } else if ((op == AND && number == 0) || (op == OR && number != 0)) {
                stack[depth] = number == 0 ? 0 : 1;
                depth++;
                pc = arg;
            }
        }

        private void setCell(int arg, int index, int number) {
            int cell = (arg >> 4) + index;
            if (asking) {
                outcome = IMPURE;
            } else if (index >= 0 && index < (arg & 15) && cell < cells.length) {
                cells[cell] = number;
            }
        }

        private void enter(int told) {
            if (nest >= NESTED || told < 0 || told >= text.tellingCount) {
                outcome = SPENT;
                return;
            }
            Telling telling = text.tellings[told];
            nest++;
            backs[nest] = pc;
            pc = telling.start;
            depth = depth > telling.params ? depth - telling.params : 0;
            for (int k = 0; k < telling.params; k++) {
                slots[nest * SLOTS + k] = stack[depth + k];
            }
        }

        private void leave(int number) {
            if (nest == ground) {
                answer = number;
                outcome = GAVE;
                return;
            }
            pc = backs[nest];
            nest--;
            if (depth < STACK) {
                stack[depth] = number;
                depth++;
            }
        }
    }

    /** A ROW OF CALLS: its MAKES and CALLS, and of which classes its OBJECTS are. */
    private static final class Row {
        static final int CALLS = 10;
        static final int OBJECTS = 3;
        /** Ten CALLS to leave out, then two numbers for each of three arguments of each CALL. */
        static final int LESSER = CALLS + CALLS * Telling.PARAMS * 2;

        int length;
        final int[] object;
        final int[] member;
        final int[][] argument;
        int objects;
        final int[] toyOf;

        Row() {
            object = new int[CALLS];
            member = new int[CALLS];
            argument = new int[CALLS][Telling.PARAMS];
            toyOf = new int[OBJECTS];
        }

        boolean roomForCall() {
            return length < CALLS;
        }

        boolean roomForMake() {
            return length < CALLS && objects < OBJECTS;
        }

        void wipe() {
            length = 0;
            objects = 0;
        }

        boolean mayTake(Text text, int o, int m, int a, int b, int d) {
            if (o < 0 || o >= objects || !text.hasMember(toyOf[o], m)) {
                return false;
            }
            Telling telling = tellingOf(text, o, m);
            return telling.admits(0, a) && telling.admits(1, b) && telling.admits(2, d);
        }

        private Telling tellingOf(Text text, int o, int m) {
            return text.tellings[text.toys[toyOf[o]].teller[m]];
        }

        void addMake(int c) {
            if (length < CALLS && objects < OBJECTS) {
                toyOf[objects] = c;
                setTo(length, objects, NONE, c, 0, 0);
                objects++;
                length++;
            }
        }

        void addCall(int o, int m, int a, int b, int d) {
            if (length < CALLS) {
                setTo(length, o, m, a, b, d);
                length++;
            }
        }

        private void setTo(int i, int o, int m, int a, int b, int d) {
            object[i] = o;
            member[i] = m;
            argument[i][0] = a;
            argument[i][1] = b;
            argument[i][2] = d;
        }

        void copyFrom(Row from) {
            length = from.length;
            objects = from.objects;
            System.arraycopy(from.object, 0, object, 0, CALLS);
            System.arraycopy(from.member, 0, member, 0, CALLS);
            System.arraycopy(from.toyOf, 0, toyOf, 0, OBJECTS);
            for (int i = 0; i < CALLS; i++) {
                System.arraycopy(from.argument[i], 0, argument[i], 0, Telling.PARAMS);
            }
        }

        private void shorten(int size) {
            for (int i = length - 1; i >= size && i >= 0; i--) {
                length = i;
                objects -= member[i] == NONE ? 1 : 0;
            }
        }

        private void lowerArguments(Text text, int i, int from) {
            Telling telling = tellingOf(text, object[i], member[i]);
            for (int k = from; k < Telling.PARAMS; k++) {
                argument[i][k] = k < telling.params ? telling.low[k] : 0;
            }
        }

        /** The first row of all that are so long and alike ahead of a CALL: false when there is none. */
        boolean fillFrom(Text text, int c, int from, int size) {
            shorten(from);
            for (int i = from; i < size; i++) {
                if (i > 0 && text.hasMember(c, 0)) {
                    addCall(0, 0, 0, 0, 0);
                    lowerArguments(text, i, 0);
                } else if (roomForMake()) {
                    addMake(c);
                } else {
                    return false;
                }
            }
            return true;
        }

        /** The first row of all behind those that are alike up to this CALL. */
        boolean goOnBehind(Text text, int c, int position, int size) {
            for (int i = Math.min(position, length - 1); i >= 1; i--) {
                if (changeLast(text, c, i)) {
                    return fillFrom(text, c, i + 1, size);
                }
            }
            return false;
        }

        /** Makes CALL i, the last one then, the next in order: arguments, OBJECTS, members, MAKE. */
        private boolean changeLast(Text text, int c, int i) {
            shorten(i + 1);
            if (member[i] == NONE) {
                return false;
            }
            Telling telling = tellingOf(text, object[i], member[i]);
            for (int k = telling.params - 1; k >= 0; k--) {
                int behind = telling.numberBehind(k, argument[i][k]);
                if (behind != argument[i][k]) {
                    argument[i][k] = behind;
                    lowerArguments(text, i, k + 1);
                    return true;
                }
            }
            if (object[i] + 1 < objects) {
                object[i]++;
            } else if (text.hasMember(c, member[i] + 1)) {
                object[i] = 0;
                member[i]++;
            } else if (objects < OBJECTS) {
                shorten(i);
                addMake(c);
                return true;
            } else {
                return false;
            }
            lowerArguments(text, i, 0);
            return true;
        }

        /** Becomes the lesser row of that number: false when there is none, or it is the same row. */
        boolean becomeLesser(Text text, Row from, int number) {
            if (number < CALLS) {
                return leaveOut(from, number);
            }
            int i = (number - CALLS) / (2 * Telling.PARAMS);
            int rest = (number - CALLS) % (2 * Telling.PARAMS);
            return lowerOne(text, from, i, rest / 2, rest % 2 == 1);
        }

        private boolean leaveOut(Row from, int left) {
            if (left >= from.length) {
                return false;
            }
            wipe();
            boolean made = from.member[left] == NONE;
            int gone = made ? from.object[left] : OBJECTS;
            for (int i = 0; i < from.length; i++) {
                int o = from.object[i];
                if (i == left || o == gone) {
                    continue;
                }
                if (from.member[i] == NONE) {
                    addMake(from.argument[i][0]);
                } else {
                    int[] given = from.argument[i];
                    addCall(o > gone ? o - 1 : o, from.member[i], given[0], given[1], given[2]);
                }
            }
            return length > 0;
        }

        private boolean lowerOne(Text text, Row from, int i, int k, boolean half) {
            if (i >= from.length || from.member[i] == NONE) {
                return false;
            }
            Telling telling = from.tellingOf(text, from.object[i], from.member[i]);
            if (k >= telling.params) {
                return false;
            }
            long first = telling.firstOf(k);
            long number = from.argument[i][k];
            long less = half ? first + (number - first) / 2 : first;
            if (less == number) {
                return false;
            }
            copyFrom(from);
            argument[i][k] = (int) less;
            return true;
        }
    }

    /** What came of running a row. */
    private static final class Run {
        int verdict;
        int brokenMark;
        int brokenObject;
        int changedObject;
        int changedCell;
        long thrownWord;
        int objects;
        final int[] toyOf;
        final int[] besideOf;
        final int[][] cells;
        final int[][] besides;
        final int[] before;
        final int[] gave;
        final int[] done;
        int reached;
        int outcome;
        int answer;

        Run() {
            toyOf = new int[Row.OBJECTS];
            besideOf = new int[Row.OBJECTS];
            cells = new int[Row.OBJECTS][Toy.CELLS];
            besides = new int[Row.OBJECTS][Toy.CELLS];
            before = new int[Toy.CELLS];
            gave = new int[Row.CALLS];
            done = new int[Row.CALLS];
            brokenMark = NONE;
            brokenObject = NONE;
            changedObject = NONE;
            changedCell = NONE;
        }

        void wipe() {
            verdict = 0;
            brokenMark = NONE;
            brokenObject = NONE;
            changedObject = NONE;
            changedCell = NONE;
            thrownWord = 0;
            objects = 0;
            reached = 0;
            for (int i = 0; i < Row.CALLS; i++) {
                forgetCall(i);
            }
        }

        void forgetCall(int i) {
            if (i >= 0 && i < Row.CALLS) {
                gave[i] = 0;
                done[i] = 0;
            }
        }

        void breakBy(int bad, int mark, int object) {
            verdict = bad;
            brokenMark = mark;
            brokenObject = object;
        }

        void breakAt(int bad, int object, int cell) {
            verdict = bad;
            changedObject = object;
            changedCell = cell;
        }

        int brokenPlace(Text text) {
            return brokenMark >= 0 && brokenMark < text.markCount ? text.markPlace[brokenMark] : NONE;
        }
    }

    /** Runs rows: one's own, drawn ones, all up to a size, and lesser ones. */
    private static final class Trial {
        static final int CUT = -1;
        static final int NOT_GIVEN = 1;
        static final int NOT_KEPT = 2;
        static final int NOT_TOLD = 3;
        static final int NOT_ONLY = 4;
        static final int NOT_PURE = 5;
        static final int NOT_LIKE_MODEL = 6;
        static final int BAD = 7;
        static final int SPENT = 8;
        static final int ALL_ROWS = 600;
        static final int LOOKED_AT = 1000000;

        private Text text;
        private final Machine machine;
        Row row;
        private Row spareRow;
        Run latest;
        private Run spareRun;
        int rowsTried;
        int rowsCut;
        boolean ranAsItIs;
        private int seedling;

        Trial(Text first) {
            text = first;
            machine = new Machine();
            row = new Row();
            spareRow = new Row();
            latest = new Run();
            spareRun = new Run();
        }

        void useText(Text read) {
            text = read;
            row.wipe();
            latest.wipe();
            rowsTried = 0;
            rowsCut = 0;
            ranAsItIs = false;
        }

        void emptyRow() {
            row.wipe();
            ranAsItIs = false;
        }

        int appendMake(int c) {
            latest.forgetCall(row.length);
            row.addMake(c);
            ranAsItIs = false;
            return row.objects - 1;
        }

        int appendCall(int object, int member, int a, int b, int d) {
            latest.forgetCall(row.length);
            row.addCall(object, member, a, b, d);
            ranAsItIs = false;
            return row.length;
        }

        void runOwnRow() {
            runThrough(row, latest);
            ranAsItIs = true;
        }

        /** The spare row and what came of it are told of from now on. */
        private void tellOfSpare() {
            Row toldRow = row;
            row = spareRow;
            spareRow = toldRow;
            Run toldRun = latest;
            latest = spareRun;
            spareRun = toldRun;
            ranAsItIs = true;
        }

        private void countSpare() {
            rowsTried++;
            rowsCut += spareRun.verdict == CUT ? 1 : 0;
        }

        int tryDrawn(int c, int seed, int n) {
            rowsTried = 0;
            rowsCut = 0;
            for (int i = 0; i < n; i++) {
                drawRow(c, seed + 7919 * i);
                runThrough(spareRow, spareRun);
                countSpare();
                tellOfSpare();
                if (latest.verdict > 0) {
                    return latest.verdict;
                }
            }
            return 0;
        }

        private int drawNext() {
            seedling = 1103515245 * seedling + 12345;
            return seedling >>> 16 & 32767;
        }

        private void drawRow(int c, int seed) {
            seedling = seed;
            spareRow.wipe();
            int size = 1 + drawNext() % Row.CALLS;
            spareRow.addMake(c);
            boolean more = true;
            for (int i = 1; i < size && more; i++) {
                boolean makes = drawNext() % 8 == 0 && spareRow.objects < Row.OBJECTS;
                if (makes || !text.hasMember(c, 0)) {
                    more = spareRow.objects < Row.OBJECTS;
                    spareRow.addMake(c);
                } else {
                    drawCall(text.toys[c]);
                }
            }
        }

        private void drawCall(Toy toy) {
            int object = drawNext() % Math.max(spareRow.objects, 1);
            int member = drawNext() % Math.max(toy.members, 1);
            Telling telling = text.tellings[toy.teller[member]];
            int a = drawArgument(telling, 0);
            int b = drawArgument(telling, 1);
            int d = drawArgument(telling, 2);
            spareRow.addCall(object, member, a, b, d);
        }

        private int drawArgument(Telling telling, int k) {
            if (k >= telling.params) {
                return 0;
            }
            switch (drawNext() % 4) {
                case 0: return telling.low[k];
                case 1: return telling.high[k];
                case 2: return telling.firstOf(k);
                default: break;
            }
            long span = Math.max((long) telling.high[k] - telling.low[k] + 1, 1);
            return (int) (telling.low[k] + drawNext() % span);
        }

        int tryAll(int c, int size) {
            rowsTried = 0;
            rowsCut = 0;
            for (int length = 1; length <= size; length++) {
                spareRow.wipe();
                boolean more = spareRow.fillFrom(text, c, 0, length);
                for (int i = 0; i < LOOKED_AT && more && rowsTried < ALL_ROWS; i++) {
                    runThrough(spareRow, spareRun);
                    int position = spareRun.reached;
                    if (spareRun.verdict != CUT || position == length - 1) {
                        countSpare();
                        tellOfSpare();
                        if (latest.verdict > 0) {
                            return latest.verdict;
                        }
                        spareRow.copyFrom(row);
                    }
                    more = spareRow.goOnBehind(text, c, position, length);
                }
            }
            return 0;
        }

        /** Takes the first lesser row that breaks alike, and begins again from it, as long as there is one. */
        int makeLeast() {
            int verdict = latest.verdict;
            int place = latest.brokenPlace(text);
            int taken = 0;
            int number = 0;
            for (int i = 0; i < LOOKED_AT && number < Row.LESSER; i++) {
                boolean alike = spareRow.becomeLesser(text, row, number);
                if (alike) {
                    runThrough(spareRow, spareRun);
                    alike = spareRun.verdict == verdict && spareRun.brokenPlace(text) == place;
                }
                number++;
                if (alike) {
                    tellOfSpare();
                    taken++;
                    number = 0;
                }
            }
            if (taken == 0) {
                // The MODELS may be others than in the run that is told of: what is told is as they are now.
                runThrough(row, latest);
            }
            return taken;
        }

        private void runThrough(Row given, Run run) {
            run.wipe();
            for (int i = 0; i < given.length && run.verdict == 0; i++) {
                run.reached = i;
                if (given.member[i] == NONE) {
                    doMake(given, run, i);
                } else {
                    doCall(given, run, i);
                }
            }
        }

        private void doMake(Row given, Run run, int i) {
            int c = given.argument[i][0];
            int object = run.objects;
            if (!text.hasClass(c) || object >= Row.OBJECTS) {
                return;
            }
            int model = text.toys[c].model;
            run.toyOf[object] = c;
            run.besideOf[object] = model;
            text.toys[c].fillNew(run.cells[object]);
            if (text.hasClass(model)) {
                text.toys[model].fillNew(run.besides[object]);
            }
            run.objects++;
            run.done[i] = 1;
            askKept(run, object);
        }

        private void doCall(Row given, Run run, int i) {
            int object = given.object[i];
            int[] arguments = given.argument[i];
            if (object >= run.objects || !text.hasMember(run.toyOf[object], given.member[i])) {
                return;
            }
            Toy toy = text.toys[run.toyOf[object]];
            int told = toy.teller[given.member[i]];
            int[] cells = run.cells[object];
            System.arraycopy(cells, 0, run.before, 0, Toy.CELLS);
            machine.standOn(text, toy, cells, run.before, arguments);
            askNeeds(run, object, told);
            if (run.verdict != 0) {
                return;
            }
            machine.readyToCall(text.tellings[told]);
            machine.go();
            noteCall(run, i);
            machine.standOn(text, toy, run.before, run.before, arguments);
            askThrows(run, object, told);
            findChanges(run, object, told);
            machine.standOn(text, toy, cells, run.before, arguments);
            askGives(run, object, told);
            for (int o = 0; o < run.objects; o++) {
                askKept(run, o);
            }
            askModel(run, object, text.tellings[told], arguments);
        }

        private void noteCall(Run run, int i) {
            run.outcome = machine.outcome;
            run.answer = machine.answer;
            run.done[i] = machine.outcome == Machine.GAVE ? 1 : 2;
            run.gave[i] = machine.answer;
            if (machine.outcome == Machine.THREW) {
                run.thrownWord = machine.word;
            } else if (machine.outcome != Machine.GAVE) {
                run.verdict = SPENT;
            }
        }

        /** Asks a condition: whether it holds; one that is BAD or IMPURE breaks the row at once. */
        private boolean holds(Run run, int mark, int object) {
            machine.readyToAsk(text.markStart[mark], run.answer);
            machine.go();
            if (machine.outcome == Machine.GAVE) {
                return machine.answer != 0;
            }
            if (machine.outcome == Machine.THREW) {
                run.thrownWord = machine.word;
            }
            run.breakBy(machine.outcome == Machine.IMPURE ? NOT_PURE : BAD, mark, object);
            return false;
        }

        /** The telling that this one OVERRIDES, or NONE: a chain of at most as many as there are classes. */
        private int upwards(int told) {
            return told >= 0 && told < text.tellingCount ? text.tellings[told].over : NONE;
        }

        private int lastMark(int told) {
            return Math.min(text.tellings[told].firstMark + text.tellings[told].markCount, text.markCount) - 1;
        }

        private void askNeeds(Run run, int object, int lowest) {
            int told = lowest;
            for (int up = 0; up < Text.CLASSES && told != NONE; up++) {
                boolean met = true;
                int last = lastMark(told);
                for (int m = text.tellings[told].firstMark; m <= last && met; m++) {
                    met = text.markKind[m] != Text.NEEDS || holds(run, m, object);
                }
                if (met || run.verdict != 0) {
                    return;
                }
                told = upwards(told);
            }
            run.verdict = CUT;
        }

        /** What was THROWN must be told by a throws that holds; its when sees all as ahead of the call. */
        private void askThrows(Run run, int object, int lowest) {
            if (run.verdict != 0 || run.outcome != Machine.THREW) {
                return;
            }
            long word = run.thrownWord;
            int told = lowest;
            for (int up = 0; up < Text.CLASSES && told != NONE; up++) {
                int last = lastMark(told);
                for (int m = text.tellings[told].firstMark; m <= last; m++) {
                    boolean named = text.markKind[m] == Text.THROWS && text.markWord[m] == word;
                    if (named && (text.markStart[m] == NONE || holds(run, m, object) || run.verdict != 0)) {
                        return;
                    }
                }
                told = upwards(told);
            }
            run.verdict = NOT_TOLD;
        }

        private void findChanges(Run run, int object, int lowest) {
            if (run.verdict != 0) {
                return;
            }
            Toy toy = text.toys[run.toyOf[object]];
            int[] cells = run.cells[object];
            int first = toy.changedCell(run.before, cells, Toy.NO_FIELDS);
            if (first == NONE) {
                return;
            }
            if (text.tellings[lowest].pure) {
                run.breakAt(NOT_PURE, object, first);
                return;
            }
            first = toy.changedCell(run.before, cells, fieldsThatMayChange(lowest));
            if (first != NONE) {
                run.breakAt(NOT_ONLY, object, first);
            }
        }

        /** The fields that every only of the tellings tells: a CELL of another one breaks at least one of them. */
        private int fieldsThatMayChange(int lowest) {
            int fields = Toy.ALL_FIELDS;
            int told = lowest;
            for (int up = 0; up < Text.CLASSES && told != NONE; up++) {
                int last = lastMark(told);
                for (int m = text.tellings[told].firstMark; m <= last; m++) {
                    fields &= text.markKind[m] == Text.ONLY ? text.markFields[m] : Toy.ALL_FIELDS;
                }
                told = upwards(told);
            }
            return fields;
        }

        private void askGives(Run run, int object, int lowest) {
            if (run.verdict != 0 || run.outcome != Machine.GAVE) {
                return;
            }
            int told = lowest;
            for (int up = 0; up < Text.CLASSES && told != NONE; up++) {
                int last = lastMark(told);
                for (int m = text.tellings[told].firstMark; m <= last; m++) {
                    if (text.markKind[m] == Text.GIVES && !holds(run, m, object)) {
                        run.breakBy(run.verdict == 0 ? NOT_GIVEN : run.verdict, m, object);
                        return;
                    }
                }
                told = upwards(told);
            }
        }

        private void askKept(Run run, int object) {
            if (run.verdict != 0) {
                return;
            }
            int c = run.toyOf[object];
            int[] cells = run.cells[object];
            machine.standOn(text, text.toys[c], cells, cells, cells);
            for (int up = 0; up < Text.CLASSES && text.hasClass(c); up++) {
                Toy toy = text.toys[c];
                for (int m = toy.keptFirst; m < toy.keptFirst + toy.keptCount && m < text.markCount; m++) {
                    if (!holds(run, m, object)) {
                        run.breakBy(run.verdict == 0 ? NOT_KEPT : run.verdict, m, object);
                        return;
                    }
                }
                c = toy.above;
            }
        }

        /** Does the CALL on what is beside the OBJECT as well, and compares. */
        private void askModel(Run run, int object, Telling told, int[] arguments) {
            int model = run.besideOf[object];
            if (run.verdict != 0 || !text.hasClass(model)) {
                return;
            }
            Toy toy = text.toys[model];
            int k = text.memberNamed(toy, told.name);
            if (k == NONE || text.tellings[toy.teller[k]].params != told.params) {
                return;
            }
            long word = run.thrownWord;
            machine.standOn(text, toy, run.besides[object], run.besides[object], arguments);
            machine.readyToCall(text.tellings[toy.teller[k]]);
            machine.go();
            boolean alike = machine.outcome == run.outcome;
            if (machine.outcome == Machine.THREW) {
                run.thrownWord = machine.word;
                alike = alike && machine.word == word;
            } else {
                alike = alike && machine.answer == run.answer;
            }
            run.verdict = alike ? 0 : NOT_LIKE_MODEL;
        }
    }
}
