/** What the tests share: telling a text to a garden, and counting answers that are not due. */
final class Check {
    private int asked = 0;
    private int wrong = 0;
    private String sentence = "";
    private int sentences = 0;
    private int askedAhead = 0;
    private TrialGarden used = new TrialGarden();
    private int usedCalls = 0;

    /** The answers from here on are asked for this sentence of the document: a boundary, and what is next to it. */
    void sentence(String told) {
        endSentence();
        sentence = told;
        sentences++;
        askedAhead = asked;
    }

    private void endSentence() {
        if (!sentence.isEmpty() && asked - askedAhead < 2) {
            tellWrong("a boundary and what is next to it");
        }
    }

    private void tellWrong(String what) {
        wrong++;
        System.out.println(sentence.isEmpty() ? what : "\"" + sentence + "\": " + what);
    }

    void is(String what, long got, long due) {
        asked++;
        if (got != due) {
            tellWrong(what + " answered " + got + ", due is " + due);
        }
    }

    /** A text has a FAULT of this KIND at this PLACE; with KIND 0, none. */
    void faultAt(int kind, int place, String text) {
        TrialGarden g = new TrialGarden();
        int classes = tell(g, text);
        String told = text.length() > 300 ? ".." + text.substring(text.length() - 200) : text;
        is("KIND in " + told, g.fault(0), kind);
        is("PLACE in " + told, g.fault(1), kind == 0 ? -1 : place);
        is("NONE or not in " + told, classes == -1 ? 1 : 0, kind == 0 ? 0 : 1);
        // A garden that has read other texts, with FAULTS and without, reads this one alike.
        int calls = 6 + text.length() / 20;
        usedCalls += calls;
        if (usedCalls > 512) {
            used = new TrialGarden();
            usedCalls = calls;
        }
        is("classes() behind others of " + told, tell(used, text), classes);
        is("KIND behind others in " + told, used.fault(0), kind);
        is("PLACE behind others in " + told, used.fault(1), kind == 0 ? -1 : place);
    }

    /** The same, with the PLACE told by a ^ ahead of it. */
    void fault(int kind, String marked) {
        int place = marked.indexOf('^');
        faultAt(kind, place, place < 0 ? marked : marked.substring(0, place) + marked.substring(place + 1));
    }

    void fine(String text) {
        faultAt(0, -1, text);
    }

    /** Puts a text on the tape, alone. */
    static void onTape(TrialGarden garden, String text) {
        garden.end(0);
        StringBuilder padded = new StringBuilder(text);
        while (padded.length() % 20 != 0) {
            padded.append(' ');
        }
        for (int i = 0; i < padded.length(); i += 20) {
            garden.feed(four(padded, i), four(padded, i + 4), four(padded, i + 8), four(padded, i + 12), four(padded, i + 16));
        }
        garden.end(text.length());
    }

    static int four(CharSequence text, int i) {
        return text.charAt(i) << 24 | text.charAt(i + 1) << 16 | text.charAt(i + 2) << 8 | text.charAt(i + 3);
    }

    static int tell(TrialGarden garden, String text) {
        onTape(garden, text);
        return garden.classes();
    }

    /** A new garden with a text that has no FAULT. */
    TrialGarden garden(String text) {
        TrialGarden garden = new TrialGarden();
        is("classes() of " + text, tell(garden, text) > 0 ? 1 : 0, 1);
        return garden;
    }

    /** The WORD that thrown() tells, letter by letter. */
    static String thrown(TrialGarden garden) {
        StringBuilder word = new StringBuilder();
        for (int i = 0; i < 20 && garden.thrown(i) != TrialGarden.NONE; i++) {
            word.append((char) garden.thrown(i));
        }
        return word.toString();
    }

    void same(String what, String got, String due) {
        asked++;
        if (!got.equals(due)) {
            tellWrong(what + " answered " + got + ", due is " + due);
        }
    }

    /** The ROW as one text: MAKES as m0, CALLS as object.member(arguments). */
    static String row(TrialGarden garden) {
        StringBuilder text = new StringBuilder();
        for (int i = 0; i < garden.row(); i++) {
            text.append(i == 0 ? "" : " ");
            if (garden.told(i, 1) == TrialGarden.NONE) {
                text.append('m').append(garden.told(i, 2));
            } else {
                text.append(garden.told(i, 0)).append('.').append(garden.told(i, 1)).append('(').append(garden.told(i, 2));
                text.append(',').append(garden.told(i, 3)).append(',').append(garden.told(i, 4)).append(')');
            }
        }
        return text.toString();
    }

    /** Puts CALLS behind the ROW, told as row() tells them; arguments that are left out are 0. */
    static void put(TrialGarden garden, String calls) {
        for (String call : calls.split(" ")) {
            if (call.startsWith("m")) {
                garden.make(Integer.parseInt(call.substring(1)));
                continue;
            }
            int[] n = new int[5];
            String[] parts = call.split("[.(,)]");
            for (int i = 0; i < parts.length; i++) {
                n[i] = Integer.parseInt(parts[i]);
            }
            garden.call(n[0], n[1], n[2], n[3], n[4]);
        }
    }

    /** A new garden in which this ROW of this text was run, with this verdict. */
    TrialGarden ran(String text, String calls, int verdict) {
        return ran(garden(text), calls, verdict);
    }

    /** A ROW put in place of the one that is there, and run. */
    TrialGarden ran(TrialGarden garden, String calls, int verdict) {
        garden.clear();
        put(garden, calls);
        is("CALLS of " + calls, garden.row(), calls.split(" ").length);
        is("run() of " + calls, garden.run(), verdict);
        is("verdict() of " + calls, garden.verdict(), verdict);
        return garden;
    }

    void end() {
        endSentence();
        System.out.println((sentences > 0 ? sentences + " sentences, " : "") + asked + " answers asked, " + wrong + " wrong");
        if (wrong > 0) {
            System.exit(1);
        }
    }
}
