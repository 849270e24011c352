/** What the tests share: telling a text to a garden, and counting answers that are not due. */
final class Check {
    private int asked = 0;
    private int wrong = 0;

    void is(String what, long got, long due) {
        asked++;
        if (got != due) {
            wrong++;
            System.out.println(what + " answered " + got + ", due is " + due);
        }
    }

    /** Puts a text on the tape, alone. */
    static void onTape(TrialGarden garden, String text) {
        garden.end(0);
        StringBuilder padded = new StringBuilder(text);
        while (padded.length() % 20 != 0) {
            padded.append(' ');
        }
        for (int i = 0; i < padded.length(); i += 20) {
            garden.feed(four(padded, i), four(padded, i + 4), four(padded, i + 8), four(padded, i + 12), four(padded, i + 16));
        }
        garden.end(text.length());
    }

    static int four(CharSequence text, int i) {
        return text.charAt(i) << 24 | text.charAt(i + 1) << 16 | text.charAt(i + 2) << 8 | text.charAt(i + 3);
    }

    static int tell(TrialGarden garden, String text) {
        onTape(garden, text);
        return garden.classes();
    }

    /** A new garden with a text that has no FAULT. */
    TrialGarden garden(String text) {
        TrialGarden garden = new TrialGarden();
        is("classes() of " + text, tell(garden, text) > 0 ? 1 : 0, 1);
        return garden;
    }

    /** The WORD that thrown() tells, letter by letter. */
    static String thrown(TrialGarden garden) {
        StringBuilder word = new StringBuilder();
        for (int i = 0; i < 20 && garden.thrown(i) != TrialGarden.NONE; i++) {
            word.append((char) garden.thrown(i));
        }
        return word.toString();
    }

    void same(String what, String got, String due) {
        asked++;
        if (!got.equals(due)) {
            wrong++;
            System.out.println(what + " answered " + got + ", due is " + due);
        }
    }

    /** The ROW as one text: MAKES as m0, CALLS as object.member(arguments). */
    static String row(TrialGarden garden) {
        StringBuilder text = new StringBuilder();
        for (int i = 0; i < garden.row(); i++) {
            text.append(i == 0 ? "" : " ");
            if (garden.told(i, 1) == TrialGarden.NONE) {
                text.append('m').append(garden.told(i, 2));
            } else {
                text.append(garden.told(i, 0)).append('.').append(garden.told(i, 1)).append('(').append(garden.told(i, 2));
                text.append(',').append(garden.told(i, 3)).append(',').append(garden.told(i, 4)).append(')');
            }
        }
        return text.toString();
    }

    void end() {
        System.out.println(asked + " answers asked, " + wrong + " wrong");
        if (wrong > 0) {
            System.exit(1);
        }
    }
}
