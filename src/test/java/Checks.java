/** Counts the answers that are not as due, brings texts onto the pad, and pictures a state. */
final class Checks {
    static final int NO_SUCH = -1, BAD_VALUE = -2, BAD_TEXT = -3, TOO_MANY = -4, NOT_POSSIBLE = -5, NONE = -6;

    private static int wrong = 0;
    private static int asked = 0;

    private Checks() {
    }

    static void due(String what, long got, long want) {
        asked++;
        if (got != want) {
            wrong++;
            System.out.println(what + " answered " + got + ", due is " + want);
        }
    }

    static void same(String what, String got, String want) {
        asked++;
        if (!got.equals(want)) {
            wrong++;
            System.out.println(what + " is\n  " + got + ", due is\n  " + want);
        }
    }

    static int wrongSoFar() {
        return wrong;
    }

    static void end(String test) {
        System.out.println(test + ": " + asked + " answers, " + wrong + " not as due");
        if (wrong != 0 || asked == 0) {
            System.exit(1);
        }
    }

    /** The number that put takes for 1 to 8 characters. */
    static long asNumber(String text) {
        long number = 0;
        for (char c : text.toCharArray()) {
            number = number << 8 | c;
        }
        return number;
    }

    /** Puts a text of any length on an empty pad. */
    static void write(MarchMetres x, String text) {
        for (int from = 0; from < text.length(); from += 8) {
            int to = Math.min(text.length(), from + 8);
            due("put of " + text.substring(from, to), x.put(asNumber(text.substring(from, to))), to);
        }
    }

    static void sing(MarchMetres x, String text) {
        x.wipe();
        write(x, text);
        due("read of " + text, x.read(), text.split("/").length);
    }

    static MarchMetres withSong(String text) {
        MarchMetres x = new MarchMetres();
        sing(x, text);
        return x;
    }

    /** What the calls tell of the settings, the song, the road and the march. */
    static String picture(MarchMetres x) {
        StringBuilder all = new StringBuilder();
        for (int what = 0; what <= 10; what++) {
            all.append(x.count(what)).append(' ');
        }
        for (int line = 0; line < x.count(6); line++) {
            all.append('/');
            for (int foot = 0; foot < x.line(line, 0); foot++) {
                all.append(x.foot(line, foot, 0)).append(x.foot(line, foot, 1) == 1 ? "'" : "");
            }
        }
        for (int stretch = 0; stretch < x.count(9); stretch++) {
            for (int what = 0; what <= 2; what++) {
                all.append(what == 0 ? " _" : ",").append(x.stretch(stretch, what));
            }
        }
        return all.append(" ; ").append(walked(x)).toString();
    }

    /** What walk tells, 0 to 14. */
    static String walked(MarchMetres x) {
        StringBuilder all = new StringBuilder();
        for (int what = 0; what <= 14; what++) {
            all.append(what == 0 ? "" : " ").append(x.walk(what));
        }
        return all.toString();
    }
}
