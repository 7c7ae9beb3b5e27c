/** Counts the answers that are not as due, brings texts onto the pad, and pictures a state. */
final class Checks {
    static final int NO_SUCH = -1, BAD_VALUE = -2, BAD_TEXT = -3, TOO_MANY = -4, NOT_POSSIBLE = -5, NONE = -6;
    static final int TEMPO = 0, PAUSE = 1, GASP = 2, REST = 3, BREATH = 4, MUD = 5;

    private static int wrong = 0;
    private static int asked = 0;
    private static int sentences = 0;
    private static int askedBefore = 0;
    private static String sentence = "";

    private Checks() {
    }

    /** What follows tests this sentence of the document. */
    static void sentence(String where, String words) {
        eachSentenceIsTested();
        sentences++;
        sentence = where + " \"" + words + "\": ";
    }

    private static void eachSentenceIsTested() {
        if (sentences > 0 && asked == askedBefore) {
            wrong++;
            System.out.println(sentence + "nothing was asked");
        }
        askedBefore = asked;
    }

    static void due(String what, long got, long want) {
        asked++;
        if (got != want) {
            wrong++;
            System.out.println(sentence + what + " answered " + got + ", due is " + want);
        }
    }

    static void same(String what, String got, String want) {
        asked++;
        if (!got.equals(want)) {
            wrong++;
            System.out.println(sentence + what + " is\n  " + got + ", due is\n  " + want);
        }
    }

    static int wrongSoFar() {
        return wrong;
    }

    static void end(String test) {
        eachSentenceIsTested();
        String of = sentences == 0 ? "" : sentences + " sentences, ";
        System.out.println(test + ": " + of + asked + " answers, " + wrong + " not as due");
        if (wrong != 0 || asked == 0) {
            System.exit(1);
        }
    }

    /** The number that put takes for 1 to 8 characters. */
    static long asNumber(String text) {
        long number = 0;
        for (char c : text.toCharArray()) {
            number = number << 8 | c;
        }
        return number;
    }

    /** Puts a text of any length on an empty pad. */
    static void write(MarchMetres x, String text) {
        for (int from = 0; from < text.length(); from += 8) {
            int to = Math.min(text.length(), from + 8);
            due("put of " + text.substring(from, to), x.put(asNumber(text.substring(from, to))), to);
        }
    }

    static void sing(MarchMetres x, String text) {
        x.wipe();
        write(x, text);
        due("read of " + text, x.read(), text.split("/").length);
    }

    static MarchMetres withSong(String text) {
        MarchMetres x = new MarchMetres();
        sing(x, text);
        return x;
    }

    /** On a steep hill each step but the first needs a gasp of nine beats now. */
    static void breathless(MarchMetres x) {
        x.set(BREATH, 5);
        x.set(REST, 1);
        x.set(GASP, 9);
    }

    /** What the calls tell of the settings, the song, the road and the march. */
    static String picture(MarchMetres x) {
        StringBuilder all = new StringBuilder();
        for (int what = 0; what <= 10; what++) {
            all.append(x.count(what)).append(' ');
        }
        int lines = x.count(6);
        for (int line = 0; line < lines; line++) {
            all.append('/');
            int feet = x.line(line, 0);
            for (int foot = 0; foot < feet; foot++) {
                all.append(x.foot(line, foot, 0)).append(x.foot(line, foot, 1) == 1 ? "'" : "");
            }
        }
        int stretches = x.count(9);
        for (int stretch = 0; stretch < stretches; stretch++) {
            for (int what = 0; what <= 2; what++) {
                all.append(what == 0 ? " _" : ",").append(x.stretch(stretch, what));
            }
        }
        // How the march would go on tells how many beats were sung on the stretch, which no call says.
        all.append(" ; ").append(walked(x)).append(" ; ").append(x.untilWalked(0)).append(' ').append(x.untilWalked(1));
        return all.append(' ').append(x.together()).toString();
    }

    /**
     * A picture of everything: the state, the pad, the history and the slots. It uses the object up,
     * so ask two that were made alike when one of them has to be used on.
     */
    static String whole(MarchMetres x) {
        StringBuilder all = new StringBuilder();
        all.append("now ").append(picture(x));
        all.append("\npad ").append(x.count(11)).append(' ').append(x.fault());
        all.append("\nhistory ").append(x.count(12));
        for (int n = 0; n < 10 && x.undo() != NOT_POSSIBLE; n++) {
            all.append("\n  ").append(picture(x));
        }
        for (int slot = 0; slot <= 1; slot++) {
            int beats = x.restore(slot);
            all.append("\nslot ").append(slot).append(' ').append(beats).append(beats < 0 ? "" : picture(x));
        }
        int lines = x.read();
        return all.append("\nread ").append(lines).append(lines < 0 ? "" : picture(x)).toString();
    }

    /** What walk tells, 0 to 14. */
    static String walked(MarchMetres x) {
        StringBuilder all = new StringBuilder();
        for (int what = 0; what <= 14; what++) {
            all.append(what == 0 ? "" : " ").append(x.walk(what));
        }
        return all.toString();
    }
}
