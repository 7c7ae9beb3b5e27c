import java.util.function.ToIntFunction;

/** Each sentence of the promises that names a boundary case; the numbers were worked out by hand. */
public final class EdgesTest {
    private static final int MIN = Integer.MIN_VALUE;
    private static final int MAX = Integer.MAX_VALUE;
    private static final int UNDOABLE = 12;
    private static final String FRESH = "0 0 0 0 0 0 0 30 0 0 0 0 0 0 0";
    private static final String SIXTY = "u'u'u'u'u'u'u'u'u'u'u'u'/d'd'd'd'd'd'd'd'd'd'd'd'/q'q'q'q'qq";

    private EdgesTest() {
    }

    private static void due(String what, long got, long want) {
        Checks.due(what, got, want);
    }

    private static void walkIs(String when, MarchMetres x, String want) {
        Checks.same("walk " + when, Checks.walked(x), want);
    }

    private static void sentence(int promise, String words) {
        Checks.sentence("Promise " + promise, words);
    }

    /** A song, and a road of one stretch. */
    private static MarchMetres on(String song, int steps, int slope, boolean hasMud) {
        MarchMetres x = Checks.withSong(song);
        x.pave(steps, slope, hasMud);
        return x;
    }

    private static MarchMetres underWay() {
        MarchMetres x = on("ud'/q", 20, 1, true);
        x.march(7);
        walkIs("under way", x, "7 34 1 0 1 0 5 22 0 5 1 0 0 6 0");
        return x;
    }

    private static MarchMetres fullRoad() {
        MarchMetres x = new MarchMetres();
        for (int n = 0; n < 12; n++) {
            due("stretch " + n, x.pave(n + 1, 0, false), n);
        }
        return x;
    }

    private static void first(String call, int want, ToIntFunction<MarchMetres> answer) {
        due("first call " + call, answer.applyAsInt(new MarchMetres()), want);
    }

    private static void promise1() {
        sentence(1, "Creates a march without a song and without a road.");
        MarchMetres x = new MarchMetres();
        due("lines", x.count(6), 0);
        due("stretches", x.count(9), 0);
        due("no line", x.line(0, 0), Checks.NO_SUCH);
        due("no stretch", x.stretch(0, 0), Checks.NO_SUCH);

        sentence(1, "Creates a march: the first calls that change something");
        first("set", 4, y -> y.set(Checks.TEMPO, 1));
        first("set beyond", Checks.BAD_VALUE, y -> y.set(Checks.TEMPO, 0));
        first("read", Checks.BAD_TEXT, MarchMetres::read);
        first("pave", 0, y -> y.pave(1, -3, true));
        first("pave most", 0, y -> y.pave(99, 3, false));
        first("pave beyond", Checks.BAD_VALUE, y -> y.pave(0, 0, false));
        first("tear", Checks.NO_SUCH, y -> y.tear(0));
        first("begin", 0, MarchMetres::begin);
        first("march 1", Checks.NOT_POSSIBLE, y -> y.march(1));
        first("march 500", Checks.NOT_POSSIBLE, y -> y.march(500));
        first("march 0", Checks.BAD_VALUE, y -> y.march(0));
        first("put", 1, y -> y.put('~'));
        first("put eight", 8, y -> y.put(Checks.asNumber("u'u'u'u'")));
        first("wipe", 0, MarchMetres::wipe);
        first("undo", Checks.NOT_POSSIBLE, MarchMetres::undo);
        first("save 0", 0, y -> y.save(0));
        first("save 1", 0, y -> y.save(1));
        first("save 2", Checks.BAD_VALUE, y -> y.save(2));
        first("restore 0", Checks.NOT_POSSIBLE, y -> y.restore(0));
        first("restore 1", Checks.NOT_POSSIBLE, y -> y.restore(1));
        first("restore 2", Checks.BAD_VALUE, y -> y.restore(2));
        firstQuestions();
    }

    private static void firstQuestions() {
        sentence(1, "Creates a march: the first calls that ask");
        for (int n = -1; n <= 15; n++) {
            int what = n;
            boolean isNumber = what >= 0 && what <= 14;
            first("walk " + what, !isNumber ? Checks.BAD_VALUE : what == 7 ? 30 : 0, y -> y.walk(what));
        }
        int[] counts = {Checks.BAD_VALUE, 4, 1, 3, 4, 30, 4, 0, 0, 0, 0, 0, 0, 0, Checks.BAD_VALUE};
        for (int n = -1; n <= 13; n++) {
            int what = n;
            first("count " + what, counts[what + 1], y -> y.count(what));
        }
        first("line", Checks.NO_SUCH, y -> y.line(0, 0));
        first("foot", Checks.NO_SUCH, y -> y.foot(0, 0, 0));
        first("stretch", Checks.NO_SUCH, y -> y.stretch(0, 0));
        first("untilWalked", Checks.NOT_POSSIBLE, y -> y.untilWalked(0));
        first("untilWalked of no number", Checks.BAD_VALUE, y -> y.untilWalked(4));
        first("together", Checks.NOT_POSSIBLE, MarchMetres::together);
        first("meets", Checks.NO_SUCH, y -> y.meets(0, 0));
        first("leastBreath", Checks.NOT_POSSIBLE, MarchMetres::leastBreath);
        first("bestPause", Checks.NOT_POSSIBLE, MarchMetres::bestPause);
        first("fault", 0, MarchMetres::fault);
    }

    private static void promise2() {
        sentence(2, "BAD_VALUE if there is no such setting");
        MarchMetres x = new MarchMetres();
        int[] none = {-1, 6, 7, 12, MIN, MAX};
        for (int setting : none) {
            due("set " + setting, x.set(setting, 5), Checks.BAD_VALUE);
        }
        due("the first setting", x.set(0, 5), 4);
        due("the last setting", x.set(5, 5), 4);

        sentence(2, "BAD_VALUE if value is out of its range");
        int[] far = {MIN, -256, -1, 61, 256, MAX};
        for (int setting = 0; setting < 6; setting++) {
            int value = x.count(setting);
            for (int beyond : far) {
                due("set " + setting + " to " + beyond, x.set(setting, beyond), Checks.BAD_VALUE);
            }
            due("setting " + setting + " stays", x.count(setting), value);
        }

        sentence(2, "Returns the previous value");
        due("the same again", x.set(Checks.MUD, 5), 5);
        due("another", x.set(Checks.MUD, 9), 5);
        due("the first again", x.set(Checks.MUD, 4), 9);

        sentence(2, "the march begins anew");
        x = underWay();
        x.set(Checks.BREATH, 29);
        walkIs("with the new BREATH", x, FRESH.replace("30", "29"));
    }

    private static void promise3() {
        sentence(3, "BAD_TEXT if the pad has a fault.");
        MarchMetres x = underWay();
        String before = Checks.picture(x);
        String[] faulty = {"", "x", "'", "/", "u/", "u''", "u//d", "uuuuuuuuuuuuu", "u/u/u/u/u/u/u/u/u/u/u", "ud'qx",
            SIXTY.substring(0, 59) + "/", SIXTY.substring(0, 59) + "x"};
        for (String text : faulty) {
            x.wipe();
            Checks.write(x, text);
            due("read of " + text, x.read(), Checks.BAD_TEXT);
            due("the pad keeps " + text, x.count(11), text.length());
        }
        x.wipe();
        Checks.same("all else stays", Checks.picture(x), before);

        sentence(3, "Makes the song that of the pad, and empties the pad");
        Checks.sing(x, SIXTY);
        due("an empty pad", x.count(11), 0);
        due("its fault", x.fault(), 0);
        due("a second read", x.read(), Checks.BAD_TEXT);
        due("lines", x.count(6), 3);
        due("beats", x.count(7), 12 * 2 + 12 * 3 + 6 * 4);
        due("marks", x.count(8), 28);
        Checks.sing(x, "u");
        due("no line of the old song", x.line(1, 0), Checks.NO_SUCH);
        due("no foot of the old song", x.foot(0, 1, 0), Checks.NO_SUCH);
        due("no mark of the old song", x.foot(0, 0, 1) + x.count(8), 0);

        sentence(3, "Returns how many lines it has");
        Checks.write(x, "u");
        due("one", x.read(), 1);
        Checks.write(x, "q/q/q/q/q/q/q/q/q/q");
        due("ten", x.read(), 10);

        sentence(3, "the march begins anew");
        x = underWay();
        Checks.write(x, "ud'/q");
        due("the same song", x.read(), 2);
        walkIs("begun", x, FRESH);
    }

    private static void promise4() {
        sentence(4, "BAD_VALUE if an argument is out of range");
        MarchMetres x = new MarchMetres();
        int[] noSteps = {MIN, -1, 0, 100, 256, MAX};
        for (int steps : noSteps) {
            due("steps " + steps, x.pave(steps, 0, true), Checks.BAD_VALUE);
        }
        int[] noSlopes = {MIN, -256, -4, 4, 256, MAX};
        for (int slope : noSlopes) {
            due("slope " + slope, x.pave(50, slope, true), Checks.BAD_VALUE);
        }
        due("both", x.pave(0, 4, false), Checks.BAD_VALUE);
        due("no stretch", x.count(9), 0);

        sentence(4, "TOO_MANY if there are 12.");
        x = fullRoad();
        due("a thirteenth", x.pave(1, 0, false), Checks.TOO_MANY);
        x.tear(0);
        due("when one was torn out", x.pave(13, 0, false), 11);
        due("a thirteenth again", x.pave(1, 0, false), Checks.TOO_MANY);
        x.undo();
        due("when the twelfth was undone", x.pave(14, 0, false), 11);
        due("it stands at the end", x.stretch(11, 0), 14);

        sentence(4, "Returns its number");
        x = new MarchMetres();
        due("the first", x.pave(1, 0, false), 0);
        due("the second", x.pave(1, 0, false), 1);
        x.tear(0);
        due("the second again", x.pave(1, 0, false), 1);

        sentence(4, "Adds a stretch at the end of the road; the march begins anew");
        x = underWay();
        due("the second", x.pave(99, -3, false), 1);
        walkIs("begun", x, FRESH);
        due("the first stays", x.stretch(0, 0) * 100 + x.stretch(0, 1) * 10 + x.stretch(0, 2), 2041);
    }

    private static void promise5() {
        sentence(5, "NO_SUCH if there is no such stretch.");
        MarchMetres x = new MarchMetres();
        due("without a road", x.tear(0), Checks.NO_SUCH);
        x = fullRoad();
        int[] none = {MIN, -1, 12, 13, 268435456, MAX};
        for (int stretch : none) {
            due("tear " + stretch, x.tear(stretch), Checks.NO_SUCH);
        }
        due("twelve stay", x.count(9), 12);

        sentence(5, "Returns its steps");
        due("the last", x.tear(11), 12);
        due("that is not there any more", x.tear(11), Checks.NO_SUCH);
        due("the first", x.tear(0), 1);

        sentence(5, "those behind it get numbers that are 1 less");
        for (int n = 0; n < 10; n++) {
            due("steps of " + n, x.stretch(n, 0), n + 2);
        }
        due("one in the midst", x.tear(4), 6);
        MarchMetres y = fullRoad();
        y.tear(0);
        due("the twelfth is the eleventh", y.stretch(10, 0), 12);
        y.pave(50, 0, false);
        due("and stays it", y.stretch(10, 0) * 100 + y.stretch(11, 0), 1250);
        due("before it", x.stretch(3, 0), 5);
        due("behind it", x.stretch(4, 0), 7);
        x = on("u", 1, -3, true);
        x.pave(2, 3, false);
        x.pave(3, 0, true);
        x.tear(0);
        due("slopes move", x.stretch(0, 1) * 10 + x.stretch(1, 1), 63);
        due("mud moves", x.stretch(0, 2) * 10 + x.stretch(1, 2), 1);

        sentence(5, "the march begins anew: also when the road is empty then");
        x.march(1);
        x.tear(0);
        walkIs("begun", x, FRESH);
        x.march(1);
        x.tear(0);
        walkIs("without a road", x, FRESH);
        due("march", x.march(1), Checks.NOT_POSSIBLE);
        due("a new first stretch", x.pave(9, 0, false), 0);
    }

    private static void promise6() {
        sentence(6, "Returns how many beats it had.");
        MarchMetres x = new MarchMetres();
        due("without song and road", x.begin(), 0);
        x = underWay();
        due("7 beats", x.begin(), 7);
        due("none", x.begin(), 0);
        x.march(500);
        int beats = x.walk(0);
        due("of a road that is walked", x.begin(), beats);

        sentence(6, "Begins the march anew.");
        walkIs("begun", x, FRESH);
        due("it can be walked again", x.march(500), beats);

        sentence(6, "This is a change.");
        x = new MarchMetres();
        due("also when nothing is different then", x.begin() + x.count(UNDOABLE), 1);
    }

    private static void promise7() {
        sentence(7, "beats: 1 to 500");
        MarchMetres x = on("u", 99, 0, false);
        for (int n = 0; n < 11; n++) {
            x.pave(99, 0, false);
        }
        int[] none = {MIN, -500, -1, 0, 501, 1000, MAX};
        for (int beats : none) {
            due("march " + beats, x.march(beats), Checks.BAD_VALUE);
        }
        walkIs("not begun", x, FRESH);
        due("march 1", x.march(1), 1);
        due("march 500", x.march(500), 500);
        due("501 beats", x.walk(0), 501);

        sentence(7, "Marches, until the road is walked at most.");
        x = on("u", 5, 0, false);
        due("one less", x.march(4), 4);
        due("not yet", x.walk(14), 0);
        due("the last", x.march(1), 1);
        due("walked", x.walk(14), 1);
        x.begin();
        due("as many", x.march(5), 5);
        x.begin();
        due("one more", x.march(6), 5);
        x.begin();
        due("many more", x.march(500), 5);

        sentence(7, "NOT_POSSIBLE if there is no song, no road, or the road is walked.");
        due("walked", x.march(1), Checks.NOT_POSSIBLE);
        x.tear(0);
        due("no road", x.march(1), Checks.NOT_POSSIBLE);
        x = new MarchMetres();
        due("neither", x.march(1), Checks.NOT_POSSIBLE);
        x.pave(5, 0, false);
        due("no song", x.march(1), Checks.NOT_POSSIBLE);
        Checks.sing(x, "u");
        due("both", x.march(1), 1);
    }

    private static void promise8() {
        sentence(8, "NO_SUCH if there is no such line");
        MarchMetres x = Checks.withSong("u'/dddddddddddd/q'q'/u/u/u/u/u/u/uq'");
        int[] none = {MIN, -1, 10, 11, 357913942, MAX};
        for (int line : none) {
            due("line " + line, x.line(line, 0), Checks.NO_SUCH);
        }
        due("the first", x.line(0, 1), 2);
        due("the last", x.line(9, 1), 6);
        Checks.sing(x, "u");
        due("of the song before", x.line(1, 0), Checks.NO_SUCH);

        sentence(8, "BAD_VALUE if what is out of range.");
        int[] noWhat = {MIN, -1, 4, 5, MAX};
        for (int what : noWhat) {
            due("what " + what, x.line(0, what), Checks.BAD_VALUE);
        }
        due("what 0", x.line(0, 0), 1);
        due("what 3", x.line(0, 3), 2);

        sentence(8, "its beats with pauses (PAUSE for each breath mark), without gasps");
        Checks.sing(x, "q'q'q'q'q'q'q'q'q'q'q'q'/qqqqqqqqqqqq");
        due("with twelve marks", x.line(0, 3), 48 + 12);
        due("without a mark", x.line(1, 3), 48);
        x.set(Checks.PAUSE, 9);
        due("with PAUSE 9", x.line(0, 3), 48 + 108);
        x.set(Checks.PAUSE, 0);
        due("with PAUSE 0", x.line(0, 3), 48);
        x.set(Checks.BREATH, 5);
        due("without gasps", x.line(0, 3), 48);
        due("its marks", x.line(0, 2), 12);
        due("its feet", x.line(0, 0), 12);
    }

    private static void promise9() {
        sentence(9, "NO_SUCH if there is no such line or foot");
        MarchMetres x = Checks.withSong("u'/dddddddddddq'/qu");
        int[] none = {MIN, -1, 3, 357913942, MAX};
        for (int line : none) {
            due("line " + line, x.foot(line, 0, 0), Checks.NO_SUCH);
        }
        int[] noFoot = {MIN, -1, 12, 13, MAX};
        for (int foot : noFoot) {
            due("foot " + foot, x.foot(1, foot, 0), Checks.NO_SUCH);
        }
        due("behind a line of one foot", x.foot(0, 1, 0), Checks.NO_SUCH);
        due("behind a line of two", x.foot(2, 2, 0), Checks.NO_SUCH);
        due("before the second line", x.foot(1, -1, 0), Checks.NO_SUCH);
        due("the first foot", x.foot(0, 0, 0), 2);
        due("the twelfth foot", x.foot(1, 11, 0), 4);
        due("the last foot", x.foot(2, 1, 0), 2);

        sentence(9, "BAD_VALUE if what is out of range.");
        int[] noWhat = {MIN, -1, 2, 3, MAX};
        for (int what : noWhat) {
            due("what " + what, x.foot(0, 0, what), Checks.BAD_VALUE);
        }

        sentence(9, "whether there is a breath mark behind it (1 or 0)");
        due("behind the only foot", x.foot(0, 0, 1), 1);
        due("not behind the eleventh", x.foot(1, 10, 1), 0);
        due("behind the twelfth", x.foot(1, 11, 1), 1);
        due("not behind the last", x.foot(2, 1, 1), 0);
    }

    private static void promise10() {
        sentence(10, "NO_SUCH if there is no such stretch");
        MarchMetres x = fullRoad();
        int[] none = {MIN, -1, 12, 13, MAX};
        for (int stretch : none) {
            due("stretch " + stretch, x.stretch(stretch, 0), Checks.NO_SUCH);
        }
        due("the first", x.stretch(0, 0), 1);
        due("the twelfth", x.stretch(11, 0), 12);
        x.tear(11);
        due("that was torn out", x.stretch(11, 0), Checks.NO_SUCH);

        sentence(10, "BAD_VALUE if what is out of range.");
        int[] noWhat = {MIN, -1, 4, 5, MAX};
        for (int what : noWhat) {
            due("what " + what, x.stretch(0, what), Checks.BAD_VALUE);
        }

        sentence(10, "its slope and 3, together");
        x = new MarchMetres();
        for (int slope = -3; slope <= 3; slope++) {
            due("stretch of slope " + slope, x.stretch(x.pave(1, slope, false), 1), slope + 3);
        }

        sentence(10, "beats that have to be sung on it");
        int[][] want = {{2, 1, 1}, {2, 2, 3}, {2, 99, 197}, {4, 3, 3}, {4, 4, 5}, {4, 6, 7}, {4, 7, 9}, {9, 8, 8},
            {9, 9, 10}, {9, 16, 17}, {9, 17, 19}, {9, 99, 111}};
        for (int[] w : want) {
            x = new MarchMetres();
            x.set(Checks.MUD, w[0]);
            due("MUD " + w[0] + ", steps " + w[1], x.stretch(x.pave(w[1], 0, true), 3), w[2]);
            due("the same without mud", x.stretch(x.pave(w[1], 3, false), 3), w[1]);
        }
    }

    private static void promise11() {
        sentence(11, "BAD_VALUE if what is out of range.");
        MarchMetres x = underWay();
        int[] noWhat = {MIN, -1, 15, 16, MAX};
        for (int what : noWhat) {
            due("what " + what, x.walk(what), Checks.BAD_VALUE);
        }
        due("what 0", x.walk(0), 7);
        due("what 14", x.walk(14), 0);

        sentence(11, "5 the stretch (how many there are, when the road is walked), 6 steps made on it (0 then)");
        x = on("u", 3, 0, false);
        x.pave(2, 0, false);
        int[] stretches = {0, 0, 1, 1, 2};
        int[] steps = {1, 2, 0, 1, 0};
        for (int n = 0; n < 5; n++) {
            x.march(1);
            due("stretch behind " + (n + 1), x.walk(5), stretches[n]);
            due("steps behind " + (n + 1), x.walk(6), steps[n]);
            due("all steps behind " + (n + 1), x.walk(9), n + 1);
        }
        x = fullRoad();
        Checks.sing(x, "u");
        x.march(500);
        due("how many there are", x.walk(5), 12);

        sentence(11, "14 whether the road is walked (1 or 0; 0 without a road)");
        due("walked", x.walk(14), 1);
        x.undo();
        due("not yet", x.walk(14), 0);
        due("without a road and a song", new MarchMetres().walk(14), 0);
        due("without a road", Checks.withSong("u").walk(14), 0);
        x = on("u", 1, 0, false);
        x.march(1);
        x.tear(0);
        due("when it was torn out", x.walk(14), 0);
        x.undo();
        due("walked again", x.walk(14), 1);
    }

    private static void promise12() {
        sentence(12, "BAD_VALUE if what is out of range.");
        MarchMetres x = underWay();
        int[] noWhat = {MIN, -1, 13, 14, MAX};
        for (int what : noWhat) {
            due("what " + what, x.count(what), Checks.BAD_VALUE);
        }
        due("what 0", x.count(0), 4);
        due("what 12", x.count(12), 3);

        sentence(12, "6 lines of the song, 7 beats that are sung in the song, 8 its breath marks");
        Checks.sing(x, SIXTY);
        due("lines", x.count(6), 3);
        due("beats", x.count(7), 84);
        due("marks", x.count(8), 28);
        Checks.sing(x, "u");
        due("of the least song", x.count(6) * 100 + x.count(7) * 10 + x.count(8), 120);

        sentence(12, "9 stretches, 10 steps of the road");
        x = new MarchMetres();
        due("none", x.count(9) + x.count(10), 0);
        for (int n = 0; n < 12; n++) {
            x.pave(99, 0, false);
        }
        due("twelve", x.count(9), 12);
        due("most steps", x.count(10), 1188);
        x.tear(3);
        due("steps of eleven", x.count(10), 1089);

        sentence(12, "11 the length of the pad, 12 how many changes can be undone");
        x = new MarchMetres();
        due("an empty pad", x.count(11), 0);
        Checks.write(x, SIXTY);
        due("a full pad", x.count(11), 60);
        for (int n = 0; n <= 9; n++) {
            due("behind " + n + " changes", x.count(12), Math.min(n, 6));
            x.begin();
        }
    }

    /** One step, and 9 beats of a gasp and one that is sung for each step more. */
    private static MarchMetres gasping(int steps) {
        MarchMetres x = Checks.withSong("qqqqqqqqqqqq/qqqqqqqqqqqq/du");
        Checks.breathless(x);
        for (int left = steps; left > 0; left -= 99) {
            x.pave(Math.min(left, 99), 3, false);
        }
        return x;
    }

    private static void promise13() {
        sentence(13, "BAD_VALUE if what is out of range");
        MarchMetres x = on("u", 3, 0, false);
        int[] noWhat = {MIN, -1, 4, 5, MAX};
        for (int what : noWhat) {
            due("what " + what, x.untilWalked(what), Checks.BAD_VALUE);
        }
        due("what 0", x.untilWalked(0), 3);
        due("what 3", x.untilWalked(3), 1);

        sentence(13, "NOT_POSSIBLE if there is no song or no road");
        due("no road", Checks.withSong("u").untilWalked(0), Checks.NOT_POSSIBLE);
        x = new MarchMetres();
        x.pave(1, 0, false);
        due("no song", x.untilWalked(0), Checks.NOT_POSSIBLE);

        sentence(13, "Tells what it takes from now on until the road is walked.");
        x = on("u", 1, 3, false);
        due("one beat", x.untilWalked(0), 1);
        due("its ticks", x.untilWalked(1), 7);
        due("no gasp", x.untilWalked(2), 0);
        due("no song", x.untilWalked(3), 0);
        x.march(1);
        for (int what = 0; what <= 3; what++) {
            due("when it is walked, what " + what, x.untilWalked(what), 0);
        }
        x = gasping(3);
        x.march(1);
        int[] from = {20, 20 * 4 + 2 * 3, 2, 0};
        for (int what = 0; what <= 3; what++) {
            due("behind a beat, what " + what, x.untilWalked(what), from[what]);
        }
        x.march(1);
        due("a gasp that has begun is not told", x.untilWalked(2), 1);
        x = on("u", 7, 0, false);
        x.march(5);
        due("nor are songs that were sung", x.untilWalked(3), 1);

        sentence(13, "NONE if it is not walked in 5000 beats.");
        x = gasping(500);
        due("4991 beats", x.untilWalked(0), 4991);
        x = gasping(501);
        due("5001 beats", x.untilWalked(0), Checks.NONE);
        due("their songs", x.untilWalked(3), Checks.NONE);
        x.march(1);
        due("5000 beats", x.untilWalked(0), 5000);
        due("their ticks", x.untilWalked(1), 21500);
        due("their gasps", x.untilWalked(2), 500);
        due("their songs", x.untilWalked(3), 4);
    }

    private static void promise14() {
        sentence(14, "NOT_POSSIBLE if there is no song or no road");
        due("no road", Checks.withSong("u").together(), Checks.NOT_POSSIBLE);
        MarchMetres x = new MarchMetres();
        x.pave(2, 0, false);
        due("no song", x.together(), Checks.NOT_POSSIBLE);

        sentence(14, "Tells behind how many beats from now on the song and a stretch end in the same beat.");
        x = on("u", 2, 0, false);
        due("the last stretch, too", x.together(), 2);
        x.march(1);
        due("in the next beat", x.together(), 1);
        x = on("u", 4, 0, false);
        x.pave(1, 0, false);
        x.pave(1, 0, false);
        due("the first time", x.together(), 4);
        x.march(4);
        due("from now on: the beat that has been does not count", x.together(), 2);
        x = on("u'", 4, 0, false);
        due("pauses count", x.together(), 5);

        sentence(14, "NONE if they do not until the road is walked");
        x.march(500);
        due("walked", x.together(), Checks.NONE);
        x = on("u", 1, 0, false);
        due("the song does not end", x.together(), Checks.NONE);
        x = on("u", 3, 0, false);
        due("they end in other beats", x.together(), Checks.NONE);
        x = on("u", 2, 0, true);
        x.set(Checks.MUD, 2);
        due("the song ends with a skipped beat", x.together(), Checks.NONE);

        sentence(14, "(or in 5000 beats)");
        x = Checks.withSong("qqqqqqqqqqqq/qqqqqqqqqqqq/qu");
        Checks.breathless(x);
        for (int n = 0; n < 5; n++) {
            x.pave(99, 3, false);
        }
        x.pave(15, 3, false);
        due("in 5091 beats", x.together(), Checks.NONE);
        x.march(90);
        due("in 5001 beats", x.together(), Checks.NONE);
        x.march(1);
        due("in 5000 beats", x.together(), 5000);
    }

    private static void promise15() {
        sentence(15, "NO_SUCH if there is no such stretch");
        MarchMetres x = new MarchMetres();
        due("without a road", x.meets(0, 0), Checks.NO_SUCH);
        x = on("q", 6, 0, false);
        int[] none = {MIN, -1, 1, 12, MAX};
        for (int stretch : none) {
            due("counting, stretch " + stretch, x.meets(stretch, 0), Checks.NO_SUCH);
            due("at once, stretch " + stretch, x.meets(stretch, 1), Checks.NO_SUCH);
        }

        sentence(15, "BAD_VALUE if way is neither 0 nor 1");
        int[] noWay = {MIN, -1, 2, 3, MAX};
        for (int way : noWay) {
            due("way " + way, x.meets(0, way), Checks.BAD_VALUE);
        }

        sentence(15, "NOT_POSSIBLE if there is no song.");
        MarchMetres silent = fullRoad();
        due("counting", silent.meets(0, 0), Checks.NOT_POSSIBLE);
        due("at once", silent.meets(11, 1), Checks.NOT_POSSIBLE);

        sentence(15, "Returns how many (the same by both ways)");
        int[][] want = {{1, 1}, {2, 1}, {3, 3}, {4, 1}, {6, 3}, {8, 2}, {97, 97}, {98, 49}, {99, 99}};
        for (int[] w : want) {
            MarchMetres y = on("q", w[0], 0, false);
            due("counting, steps " + w[0], y.meets(0, 0), w[1]);
            due("at once, steps " + w[0], y.meets(0, 1), w[1]);
        }
        Checks.sing(x, SIXTY);
        due("84 beats and 6 steps, counting", x.meets(0, 0), 1);
        due("84 beats and 6 steps, at once", x.meets(0, 1), 1);

        sentence(15, "if the stretch was walked again and again, without mud, and each beat that is sung brought a step");
        x = on("q'", 6, 3, true);
        x.set(Checks.MUD, 2);
        x.set(Checks.BREATH, 5);
        x.march(3);
        due("counting", x.meets(0, 0), 3);
        due("at once", x.meets(0, 1), 3);
    }

    private static void promise16() {
        sentence(16, "NOT_POSSIBLE if there is no song or no road");
        due("no road", Checks.withSong("u").leastBreath(), Checks.NOT_POSSIBLE);
        MarchMetres x = new MarchMetres();
        x.pave(2, 0, false);
        due("no song", x.leastBreath(), Checks.NOT_POSSIBLE);

        sentence(16, "Returns the breath, 5 to 60");
        int[][] want = {{1, 5}, {4, 5}, {5, 5}, {6, 6}, {59, 59}, {60, 60}};
        for (int[] w : want) {
            due(w[0] + " steps", on("q", w[0], 0, false).leastBreath(), w[1]);
        }
        due("one step on the steepest hill", on("q", 1, 3, false).leastBreath(), 5);
        due("two", on("q", 2, 3, false).leastBreath(), 8);
        due("fifteen", on("q", 15, 3, false).leastBreath(), 60);

        sentence(16, "NONE if there is none");
        due("61 steps", on("q", 61, 0, false).leastBreath(), Checks.NONE);
        due("sixteen on the steepest hill", on("q", 16, 3, false).leastBreath(), Checks.NONE);
        due("60 steps, and a skipped beat", on("q", 60, 0, true).leastBreath(), Checks.NONE);

        sentence(16, "(or it is not walked in 5000 beats)");
        // A song has 16 beats that are sung and 63 of pauses, and the 1013th step is its 5000th beat.
        x = Checks.withSong("u'u'u'u'u'u'u'u");
        x.set(Checks.PAUSE, 9);
        x.set(Checks.REST, 1);
        for (int n = 0; n < 10; n++) {
            x.pave(99, 0, false);
        }
        x.pave(23, 0, false);
        due("5000 beats", x.untilWalked(0), 5000);
        due("their breath", x.leastBreath(), 5);
        x.pave(1, 0, false);
        due("5001 beats", x.untilWalked(0), Checks.NONE);
        due("no breath", x.leastBreath(), Checks.NONE);
        x.march(1);
        due("5000 beats from now on", x.untilWalked(0), 5000);
        due("but not from the beginning", x.leastBreath(), Checks.NONE);

        sentence(16, "with which the whole road is walked from its beginning without a gasp");
        x = on("q", 20, 0, false);
        x.set(Checks.BREATH, 5);
        x.march(8);
        due("from its beginning", x.leastBreath(), 20);
        x.march(500);
        due("also when it is walked", x.leastBreath(), 20);
        due("BREATH stays", x.count(Checks.BREATH), 5);
    }

    private static void promise17() {
        sentence(17, "NOT_POSSIBLE if there is no song or no road");
        due("no road", Checks.withSong("u").bestPause(), Checks.NOT_POSSIBLE);
        MarchMetres x = new MarchMetres();
        x.pave(2, 0, false);
        due("no song", x.bestPause(), Checks.NOT_POSSIBLE);

        sentence(17, "Finds the PAUSE with which the whole road is walked from its beginning in the fewest beats");
        for (int pause = 0; pause <= 8; pause++) {
            x = on("u'", 4, 3, false);
            Checks.breathless(x);
            x.set(Checks.BREATH, 16 - pause);
            due("as much as lacks", x.bestPause(), pause);
            x.set(Checks.PAUSE, 9);
            due("whatever PAUSE is", x.bestPause(), pause);
            x.march(3);
            due("wherever the march is", x.bestPause(), pause);
            x.march(500);
            due("when it is walked", x.bestPause(), pause);
            due("PAUSE stays", x.count(Checks.PAUSE), 9);
        }

        sentence(17, "of several the least");
        due("no mark", on("u", 9, 0, false).bestPause(), 0);
        due("no need", on("u'", 1, 0, false).bestPause(), 0);
        x = on("u'", 3, 1, false);
        Checks.breathless(x);
        x.set(Checks.GASP, 1);
        due("a gasp of one beat, or a pause of one", x.bestPause(), 0);

        sentence(17, "NONE if it is not walked in 5000 beats with any.");
        x = gasping(501);
        due("5001 beats", x.bestPause(), Checks.NONE);
        x = gasping(500);
        due("4991 beats", x.bestPause(), 0);
        x = Checks.withSong("u'");
        x.set(Checks.PAUSE, 9);
        for (int n = 0; n < 12; n++) {
            x.pave(99, 0, false);
        }
        due("with PAUSE 9 there are too many", x.untilWalked(0), Checks.NONE);
        due("with 0 there are not", x.bestPause() >= 0 ? 1 : 0, 1);
    }

    private static void promise18() {
        sentence(18, "BAD_VALUE if there is no character");
        MarchMetres x = new MarchMetres();
        due("none", x.put(0), Checks.BAD_VALUE);

        sentence(18, "a code is not 33 to 126");
        for (int code = 0; code <= 255; code++) {
            boolean isBad = code < 33 || code > 126;
            due("code " + code, new MarchMetres().put(code), isBad ? Checks.BAD_VALUE : 1);
        }
        int[] bad = {1, 32, 127, 128, 255};
        for (int place = 0; place < 8; place++) {
            for (int code : bad) {
                long seven = Checks.asNumber("uuuuuuuu") & ~(255L << 8 * place);
                due("code " + code + " at " + place, x.put(seven | (long) code << 8 * place), Checks.BAD_VALUE);
            }
        }

        sentence(18, "or a bit above 8 bits that are 0 is not 0");
        for (int empty = 0; empty < 7; empty++) {
            for (int bit = 8 * empty + 8; bit < 64; bit++) {
                long below = Checks.asNumber("uuuuuuuu") & (1L << 8 * empty) - 1;
                due("empty " + empty + ", bit " + bit, x.put(below | 1L << bit), Checks.BAD_VALUE);
            }
        }
        due("nothing was put", x.count(11), 0);

        sentence(18, "characters: 1 to 8 characters");
        for (int n = 1; n <= 8; n++) {
            due(n + " characters", x.put(Checks.asNumber("u'd'q'~!".substring(0, n))), n);
            due("they are there", x.wipe(), n);
        }
        putsInOrder();
    }

    private static void putsInOrder() {
        sentence(18, "its lowest 8 bits are the last character, the next 8 bits the one before, and so on");
        MarchMetres x = new MarchMetres();
        x.put(Checks.asNumber("udq'/qd'"));
        due("read", x.read(), 2);
        due("the first line", x.foot(0, 0, 0) * 100 + x.foot(0, 1, 0) * 10 + x.foot(0, 2, 0), 234);
        due("the second line", x.foot(1, 0, 0) * 10 + x.foot(1, 1, 0), 43);
        due("the marks", x.foot(0, 2, 1) * 10 + x.foot(1, 1, 1), 11);

        sentence(18, "Appends characters to the pad");
        x.put('u');
        x.put(Checks.asNumber("d'"));
        due("read of both", x.read(), 1);
        due("the order", x.foot(0, 0, 0) * 10 + x.foot(0, 1, 0), 23);

        sentence(18, "TOO_MANY if the pad would be longer than 60.");
        for (int n = 1; n <= 8; n++) {
            x.wipe();
            Checks.write(x, SIXTY.substring(0, 60 - n));
            if (n < 8) {
                due("61 by " + (n + 1), x.put(Checks.asNumber("uuuuuuuu".substring(0, n + 1))), Checks.TOO_MANY);
            }
            due("they are not there", x.count(11), 60 - n);
            due("60 by " + n, x.put(Checks.asNumber("uuuuuuuu".substring(0, n))), 60);
        }
        due("one more", x.put('u'), Checks.TOO_MANY);
        due("eight more", x.put(Checks.asNumber("uuuuuuuu")), Checks.TOO_MANY);
        due("none more", x.put(0), Checks.BAD_VALUE);
        due("60", x.count(11), 60);
    }

    private static void promise19() {
        sentence(19, "Empties the pad, and returns the length that it had.");
        MarchMetres x = new MarchMetres();
        due("an empty pad", x.wipe(), 0);
        x.put('x');
        due("one character", x.wipe(), 1);
        due("none", x.count(11), 0);
        Checks.write(x, SIXTY);
        due("a full pad", x.wipe(), 60);
        due("again", x.wipe(), 0);
        Checks.write(x, SIXTY);
        due("there is room again", x.count(11), 60);
    }

    private static void promise20() {
        sentence(20, "Returns the fault of the pad, NONE if there is none.");
        MarchMetres x = new MarchMetres();
        due("an empty pad", x.fault(), 0);
        x.put('u');
        due("one foot", x.fault(), Checks.NONE);
        x.put('/');
        due("it ends too early", x.fault(), 2);
        x.put('x');
        due("a character that cannot stand there", x.fault(), 2);
        x.put('u');
        due("whatever is behind it", x.fault(), 2);
        x.wipe();
        due("an empty pad again", x.fault(), 0);
        Checks.write(x, SIXTY);
        due("a full pad", x.fault(), Checks.NONE);
        due("the pad stays", x.count(11), 60);
        due("it is read as told", x.read(), 3);
        due("the pad is empty then", x.fault(), 0);
    }

    private static void promise21() {
        sentence(21, "NOT_POSSIBLE if there is none.");
        MarchMetres x = new MarchMetres();
        due("at first", x.undo(), Checks.NOT_POSSIBLE);
        x.begin();
        due("one", x.undo(), 0);
        due("none", x.undo(), Checks.NOT_POSSIBLE);
        due("none, again", x.undo(), Checks.NOT_POSSIBLE);
        x.begin();
        due("a new one", x.undo(), 0);

        sentence(21, "A history of at most 6 states is kept; when one more is recorded, the oldest one is dropped.");
        for (int changes = 1; changes <= 20; changes++) {
            undoesAllOf(changes);
        }

        sentence(21, "when one more is recorded, the oldest one is dropped: also behind some undos");
        x = new MarchMetres();
        int[] values = {5, 6, 7, 8, 9, 1, 2};
        for (int value : values) {
            x.set(Checks.TEMPO, value);
        }
        due("undo", x.undo() * 10 + x.count(Checks.TEMPO), 51);
        due("undo", x.undo() * 10 + x.count(Checks.TEMPO), 49);
        x.set(Checks.MUD, 9);
        x.set(Checks.MUD, 8);
        due("six again", x.count(UNDOABLE), 6);
        x.set(Checks.MUD, 7);
        for (int left = 5; left >= 0; left--) {
            due("undo", x.undo(), left);
        }
        due("the oldest that is kept", x.count(Checks.TEMPO) * 10 + x.count(Checks.MUD), 64);
        due("no more", x.undo(), Checks.NOT_POSSIBLE);
        eachChangeIsRecorded();
    }

    private static void undoesAllOf(int changes) {
        MarchMetres x = new MarchMetres();
        for (int n = 1; n <= changes; n++) {
            due("change " + n, x.set(Checks.REST, n), n == 1 ? 4 : n - 1);
            due("undoable behind " + n, x.count(UNDOABLE), Math.min(n, 6));
        }
        for (int n = 1; n <= Math.min(changes, 6); n++) {
            due("undo " + n + " of " + changes, x.undo(), Math.min(changes, 6) - n);
            due("REST then", x.count(Checks.REST), changes - n == 0 ? 4 : changes - n);
        }
        due("no more of " + changes, x.undo(), Checks.NOT_POSSIBLE);
        due("it stays", x.count(Checks.REST), changes <= 6 ? 4 : changes - 6);
    }

    private static void eachChangeIsRecorded() {
        sentence(21, "each method that is a change, and returns no error, records the state before it");
        MarchMetres x = Checks.withSong("ud'/q");
        due("read", x.count(UNDOABLE), 1);
        x.pave(9, 2, true);
        due("pave", x.count(UNDOABLE), 2);
        x.march(3);
        due("march", x.count(UNDOABLE), 3);
        x.begin();
        due("begin", x.count(UNDOABLE), 4);
        x.tear(0);
        due("tear", x.count(UNDOABLE), 5);
        x.set(Checks.TEMPO, 9);
        due("set", x.count(UNDOABLE), 6);
        x.save(0);
        due("save is none", x.undo(), 5);
        x.restore(0);
        due("restore", x.count(UNDOABLE), 6);

        sentence(21, "each method that is a change: no other is");
        x = underWay();
        x.put('u');
        x.fault();
        x.wipe();
        x.save(1);
        x.line(0, 0);
        x.foot(0, 0, 0);
        x.stretch(0, 0);
        x.walk(0);
        x.untilWalked(0);
        x.together();
        x.meets(0, 0);
        x.leastBreath();
        x.bestPause();
        due("three", x.count(UNDOABLE), 3);
        due("the march is undone", x.undo(), 2);
        walkIs("before it", x, FRESH);

        sentence(21, "(also if nothing is different then)");
        x = new MarchMetres();
        x.set(Checks.TEMPO, 4);
        x.begin();
        x.save(0);
        x.restore(0);
        due("three changes", x.count(UNDOABLE), 3);

        sentence(21, "everything except the pad, the slots and the history is as it was before it");
        x = underWay();
        Checks.write(x, "uu");
        x.save(1);
        x.march(2);
        x.put('u');
        x.save(0);
        due("undo", x.undo(), 3);
        due("the pad stays", x.count(11), 3);
        walkIs("before it", x, "7 34 1 0 1 0 5 22 0 5 1 0 0 6 0");
        due("slot 0 stays", x.restore(0), 9);
        due("slot 1 stays", x.restore(1), 7);
        bringsBackSongs();
    }

    /** A long song with marks, replaced by a short one without, and the other way round. */
    private static void bringsBackSongs() {
        sentence(21, "everything except the pad, the slots and the history: the song, too");
        String[] songs = {"u'd/q'/dddddddddddq'", "q"};
        for (int old = 0; old <= 1; old++) {
            MarchMetres x = Checks.withSong(songs[old]);
            String before = Checks.picture(x);
            x.save(1);
            Checks.sing(x, songs[1 - old]);
            String behind = Checks.picture(x);
            x.undo();
            Checks.same("undone", Checks.picture(x), before);
            Checks.sing(x, songs[1 - old]);
            x.restore(1);
            Checks.same("restored", Checks.picture(x), before);
            x.undo();
            Checks.same("restoring is undone", Checks.picture(x), behind);
        }
    }

    private static void promise22() {
        sentence(22, "BAD_VALUE if there is no such slot.");
        MarchMetres x = underWay();
        int[] none = {MIN, -1, 2, 3, MAX};
        for (int slot : none) {
            due("save " + slot, x.save(slot), Checks.BAD_VALUE);
        }
        due("slot 0 is empty", x.restore(0), Checks.NOT_POSSIBLE);
        due("slot 1 is empty", x.restore(1), Checks.NOT_POSSIBLE);

        sentence(22, "Returns how many beats the march had");
        due("at the beginning", new MarchMetres().save(0), 0);
        due("under way", x.save(0), 7);
        x.march(500);
        due("at the end", x.save(1), x.walk(0));

        sentence(22, "and overwrites what was saved there");
        due("slot 0", x.restore(0), 7);
        due("slot 1", x.restore(1) - x.walk(0), 0);
        x.begin();
        due("save over", x.save(0), 0);
        due("slot 0 is new", x.restore(0), 0);
        due("slot 1 is old", x.restore(1) > 7 ? 1 : 0, 1);

        sentence(22, "Saves everything except the pad, the history and the slots");
        x = new MarchMetres();
        x.put('u');
        x.save(0);
        x.put('d');
        x.begin();
        x.save(1);
        due("restore", x.restore(0), 0);
        due("the pad stays", x.count(11), 2);
        due("the history goes on", x.count(UNDOABLE), 2);
        due("the other slot stays", x.restore(1), 0);
    }

    private static void promise23() {
        sentence(23, "BAD_VALUE if there is no such slot");
        MarchMetres x = underWay();
        x.save(0);
        x.save(1);
        int[] none = {MIN, -1, 2, 3, MAX};
        for (int slot : none) {
            due("restore " + slot, x.restore(slot), Checks.BAD_VALUE);
        }

        sentence(23, "NOT_POSSIBLE if nothing was saved in it.");
        x = underWay();
        due("slot 0", x.restore(0), Checks.NOT_POSSIBLE);
        due("slot 1", x.restore(1), Checks.NOT_POSSIBLE);
        x.save(1);
        due("slot 0 still", x.restore(0), Checks.NOT_POSSIBLE);
        due("slot 1 not", x.restore(1), 7);

        sentence(23, "Returns how many beats the march had: those of the march that was saved, as in promise 22");
        x = underWay();
        due("save", x.save(0), 7);
        x.march(4);
        due("restore", x.restore(0), 7);
        due("they are those of walk", x.walk(0), 7);
        x.begin();
        due("restore from the beginning", x.restore(0), 7);
        x.begin();
        x.save(1);
        x.march(3);
        due("restore the beginning", x.restore(1), 0);

        sentence(23, "Restores what was saved last in a slot, which keeps it.");
        x = underWay();
        String before = Checks.picture(x);
        x.save(0);
        for (int n = 0; n < 3; n++) {
            x.march(500);
            x.set(Checks.BREATH, 5);
            x.tear(0);
            due("restore", x.restore(0), 7);
            Checks.same("the same each time", Checks.picture(x), before);
        }
        restoresAnEmptyMarch();
    }

    private static void restoresAnEmptyMarch() {
        sentence(23, "Restores what was saved: also a march without a song and without a road");
        MarchMetres x = new MarchMetres();
        String before = Checks.picture(x);
        x.save(1);
        Checks.sing(x, "ud'/q");
        x.pave(9, 3, true);
        x.set(Checks.TEMPO, 9);
        x.march(5);
        due("restore", x.restore(1), 0);
        Checks.same("as it was", Checks.picture(x), before);

        sentence(23, "This is a change.");
        due("five changes and this", x.count(UNDOABLE), 5);
        due("it is undone", x.undo(), 4);
        due("the march is back", x.walk(0), 5);
        due("restore what is the same", x.restore(1) + x.restore(1), 0);
        due("is a change, too", x.count(UNDOABLE), 6);
    }

    private static void allCalls() {
        Checks.sentence("What it is", "An object is used for at most 512 calls after it has been made");
        MarchMetres x = new MarchMetres();
        due("1", x.put('u'), 1);
        due("2", x.read(), 1);
        due("3", x.pave(99, 0, false), 0);
        for (int call = 4; call <= 511; call += 2) {
            due(String.valueOf(call), x.march(1 + call % 50), Math.min(1 + call % 50, 99));
            due(String.valueOf(call + 1), x.begin(), Math.min(1 + call % 50, 99));
        }
    }

    public static void main(String[] args) {
        promise1();
        promise2();
        promise3();
        promise4();
        promise5();
        promise6();
        promise7();
        promise8();
        promise9();
        promise10();
        promise11();
        promise12();
        promise13();
        promise14();
        promise15();
        promise16();
        promise17();
        promise18();
        promise19();
        promise20();
        promise21();
        promise22();
        promise23();
        allCalls();
        Checks.end("EdgesTest");
    }
}
