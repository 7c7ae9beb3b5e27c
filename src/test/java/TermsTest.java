/** Each sentence under 'Terms' that names a boundary case; the numbers were worked out by hand. */
public final class TermsTest {
    private static final int TICKS = 1, STEPS = 6, BREATH_LEFT = 7, PAUSE_LEFT = 8, SKIPPED = 10, GASPS = 11;

    private TermsTest() {
    }

    private static void due(String what, long got, long want) {
        Checks.due(what, got, want);
    }

    private static void walkIs(String when, MarchMetres x, String want) {
        Checks.same("walk " + when, Checks.walked(x), want);
    }

    private static void sentence(String words) {
        Checks.sentence("Terms", words);
    }

    /** A song, and a road of one stretch. */
    private static MarchMetres on(String song, int steps, int slope, boolean hasMud) {
        MarchMetres x = Checks.withSong(song);
        x.pave(steps, slope, hasMud);
        return x;
    }

    private static void conventions() {
        sentence("NONE (-6) is not an error; it is returned only if no error applies");
        MarchMetres x = on("q", 3, 0, false);
        due("together never", x.together(), Checks.NONE);
        x.put('u');
        due("a pad without a fault", x.fault(), Checks.NONE);
        Checks.breathless(x);
        for (int n = 0; n < 6; n++) {
            x.pave(99, 3, false);
        }
        due("untilWalked of no number", x.untilWalked(4), Checks.BAD_VALUE);
        due("untilWalked too far", x.untilWalked(3), Checks.NONE);
        due("leastBreath too much", x.leastBreath(), Checks.NONE);
        due("bestPause too far", x.bestPause(), Checks.NONE);
        x = new MarchMetres();
        due("together without anything", x.together(), Checks.NOT_POSSIBLE);
        due("leastBreath without anything", x.leastBreath(), Checks.NOT_POSSIBLE);
        due("bestPause without anything", x.bestPause(), Checks.NOT_POSSIBLE);

        sentence("Everything is numbered from 0.");
        x = on("ud/q", 5, 0, false);
        due("the first stretch", x.stretch(0, 0), 5);
        due("the second stretch", x.pave(6, 0, false), 1);
        due("the first line", x.line(0, 1), 5);
        due("the second line", x.line(1, 1), 4);
        due("the first foot", x.foot(0, 0, 0), 2);
        due("the second foot", x.foot(0, 1, 0), 3);
        due("the first slot", x.save(0), 0);
        due("the first place", x.walk(2) + x.walk(3) + x.walk(4) + x.walk(5), 0);
    }

    private static void ranges(String words, int setting, int least, int most, int first) {
        sentence(words);
        MarchMetres x = new MarchMetres();
        due("first value", x.count(setting), first);
        due("1 below", x.set(setting, least - 1), Checks.BAD_VALUE);
        due("1 above", x.set(setting, most + 1), Checks.BAD_VALUE);
        due("it stays", x.count(setting), first);
        due("least", x.set(setting, least), first);
        due("it is the least", x.count(setting), least);
        due("most", x.set(setting, most), least);
        due("it is the most", x.count(setting), most);
        due("1 below, again", x.set(setting, least - 1), Checks.BAD_VALUE);
        due("1 above, again", x.set(setting, most + 1), Checks.BAD_VALUE);
        due("it stays the most", x.count(setting), most);
    }

    private static void settings() {
        ranges("TEMPO (1 to 9; 4): ticks.", Checks.TEMPO, 1, 9, 4);
        ranges("PAUSE (0 to 9; 1): beats.", Checks.PAUSE, 0, 9, 1);
        ranges("GASP (1 to 9; 3): beats.", Checks.GASP, 1, 9, 3);
        ranges("REST (1 to 20; 4): breath.", Checks.REST, 1, 20, 4);
        ranges("BREATH (5 to 60; 30): breath.", Checks.BREATH, 5, 60, 30);
        ranges("MUD (2 to 9; 4): beats.", Checks.MUD, 2, 9, 4);
    }

    private static void endsOfTheSettings() {
        sentence("TEMPO (1 to 9; 4): the march at both ends");
        ticksBehindThreeBeats(1, 3);
        ticksBehindThreeBeats(9, 27);

        sentence("PAUSE (0 to 9; 1): the march at both ends");
        MarchMetres x = on("u'", 3, 0, false);
        x.set(Checks.PAUSE, 0);
        due("no pause", x.untilWalked(0), 3);
        x.set(Checks.PAUSE, 9);
        due("nine beats", x.untilWalked(0), 12);

        sentence("GASP (1 to 9; 3): the march at both ends");
        x = on("q", 6, 0, false);
        x.set(Checks.BREATH, 5);
        x.set(Checks.GASP, 1);
        due("one beat", x.untilWalked(0), 7);
        x.set(Checks.GASP, 9);
        due("nine beats", x.untilWalked(0), 15);

        sentence("REST (1 to 20; 4): the march at both ends");
        breathBehindAPause(1, 11);
        breathBehindAPause(19, 29);
        breathBehindAPause(20, 30);

        sentence("BREATH (5 to 60; 30): the march at both ends");
        x = on("q", 61, 0, false);
        x.set(Checks.BREATH, 5);
        x.march(5);
        due("5 beats with a breath of 5", x.walk(BREATH_LEFT) * 10 + x.walk(GASPS), 0);
        x.march(1);
        due("the sixth is a gasp", x.walk(GASPS), 1);
        x.set(Checks.BREATH, 60);
        x.march(60);
        due("60 beats with a breath of 60", x.walk(BREATH_LEFT) * 10 + x.walk(GASPS), 0);
        x.march(1);
        due("the next is a gasp", x.walk(GASPS), 1);

        sentence("MUD (2 to 9; 4): the march at both ends");
        x = on("q", 9, 0, true);
        x.set(Checks.MUD, 2);
        due("each second", x.untilWalked(0), 17);
        x.set(Checks.MUD, 9);
        due("the ninth", x.untilWalked(0), 10);
    }

    private static void ticksBehindThreeBeats(int tempo, int want) {
        MarchMetres x = on("q", 3, 0, false);
        x.set(Checks.TEMPO, tempo);
        x.march(3);
        due("ticks with TEMPO " + tempo, x.walk(TICKS), want);
    }

    /** Of a breath of 30, 20 is used before a pause of one beat. */
    private static void breathBehindAPause(int rest, int want) {
        MarchMetres x = on("qqqqq'", 30, 0, false);
        x.set(Checks.REST, rest);
        x.march(20);
        due("before the pause", x.walk(BREATH_LEFT), 10);
        x.march(1);
        due("behind it, with REST " + rest, x.walk(BREATH_LEFT), want);
    }

    private static void songs() {
        sentence("The song is a row of up to 10 lines");
        MarchMetres x = Checks.withSong("u");
        due("one line", x.count(6), 1);
        due("no second", x.line(1, 0), Checks.NO_SUCH);
        Checks.sing(x, "u/u/u/u/u/u/u/u/u/q");
        due("ten lines", x.count(6), 10);
        due("the tenth", x.line(9, 1), 4);
        due("no eleventh", x.line(10, 1), Checks.NO_SUCH);
        Checks.write(x, "u/u/u/u/u/u/u/u/u/u/u");
        due("eleven lines", x.read(), Checks.BAD_TEXT);
        due("ten stay", x.count(6), 10);

        sentence("each of 1 to 12 feet");
        Checks.sing(x, "u");
        due("one foot", x.line(0, 0), 1);
        Checks.sing(x, "q/dddddddddddd/u");
        due("one foot before the twelve", x.line(0, 0), 1);
        due("twelve feet", x.line(1, 0), 12);
        due("one foot behind them", x.line(2, 0), 1);
        Checks.write(x, "u/ddddddddddddd");
        due("thirteen feet", x.read(), Checks.BAD_TEXT);
        x.wipe();
        Checks.write(x, "u//u");
        due("no foot", x.read(), Checks.BAD_TEXT);
        due("the old song stays", x.line(1, 0), 12);

        sentence("A foot has 2, 3 or 4 beats, and a breath mark behind it or none.");
        Checks.sing(x, "udqu'd'q'");
        int[] beats = {2, 3, 4, 2, 3, 4};
        for (int foot = 0; foot < 6; foot++) {
            due("beats of " + foot, x.foot(0, foot, 0), beats[foot]);
            due("mark of " + foot, x.foot(0, foot, 1), foot / 3);
        }
    }

    private static void roads() {
        sentence("The road is a row of up to 12 stretches");
        MarchMetres x = new MarchMetres();
        for (int n = 0; n < 12; n++) {
            due("stretch " + n, x.pave(n + 1, 0, false), n);
        }
        due("the thirteenth", x.pave(1, 0, false), Checks.TOO_MANY);
        due("the twelfth stays", x.stretch(11, 0), 12);
        due("there is no thirteenth", x.stretch(12, 0), Checks.NO_SUCH);

        sentence("each of 1 to 99 steps, with a slope, -3 to 3, and mud, or none");
        x = new MarchMetres();
        due("1 step", x.pave(1, 0, false), 0);
        due("99 steps", x.pave(99, 0, true), 1);
        due("0 steps", x.pave(0, 0, false), Checks.BAD_VALUE);
        due("100 steps", x.pave(100, 0, false), Checks.BAD_VALUE);
        due("slope -3", x.pave(1, -3, true), 2);
        due("slope 3", x.pave(1, 3, false), 3);
        due("slope -4", x.pave(1, -4, false), Checks.BAD_VALUE);
        due("slope 4", x.pave(1, 4, false), Checks.BAD_VALUE);
        int[][] want = {{1, 3, 0}, {99, 3, 1}, {1, 0, 1}, {1, 6, 0}};
        for (int n = 0; n < 4; n++) {
            for (int what = 0; what < 3; what++) {
                due("stretch " + n + " " + what, x.stretch(n, what), want[n][what]);
            }
        }
    }

    private static void firstPlaces() {
        sentence("There is a place in the song (at first the first ones), a stretch and steps (the first one, 0), the breath"
            + " (BREATH as the march begins), beats of a pause (0 at first), ticks (0 at first)");
        MarchMetres x = on("ud'/q", 9, 2, true);
        walkIs("at first", x, "0 0 0 0 0 0 0 30 0 0 0 0 0 0 0");
        x.set(Checks.BREATH, 5);
        walkIs("with less breath", x, "0 0 0 0 0 0 0 5 0 0 0 0 0 0 0");
        x.set(Checks.BREATH, 60);
        walkIs("with more breath", x, "0 0 0 0 0 0 0 60 0 0 0 0 0 0 0");
    }

    private static void gasps() {
        sentence("If no beats of a pause are left, and the breath is below what the beat needs, there is a gasp");
        for (int slope = 0; slope <= 3; slope++) {
            MarchMetres x = on("q", 99, slope, false);
            x.set(Checks.BREATH, 2 * (slope + 1) > 4 ? 2 * (slope + 1) : 5);
            int enough = x.count(Checks.BREATH) / (slope + 1);
            x.march(enough);
            due("as much as is needed is enough on slope " + slope, x.walk(GASPS), 0);
            x.march(1);
            due("then there is a gasp on slope " + slope, x.walk(GASPS), 1);
            due("of GASP beats, of which one is over", x.walk(PAUSE_LEFT), 2);
            due("and no step", x.walk(STEPS), enough);
        }
        MarchMetres x = on("q", 9, 1, false);
        x.set(Checks.BREATH, 5);
        x.set(Checks.REST, 1);
        x.march(2);
        due("1 breath is left", x.walk(BREATH_LEFT), 1);
        x.march(1);
        due("1 is below 2", x.walk(GASPS), 1);
        x = on("q", 9, 3, false);
        x.set(Checks.BREATH, 7);
        x.march(1);
        due("3 breath is left", x.walk(BREATH_LEFT), 3);
        x.march(1);
        due("3 is below 4", x.walk(GASPS), 1);

        sentence("If no beats of a pause are left: in a pause and in a gasp there is no other gasp");
        x = on("qd'", 20, 0, false);
        x.set(Checks.BREATH, 7);
        x.set(Checks.REST, 1);
        x.march(7);
        due("no breath, but a pause", x.walk(BREATH_LEFT) * 10 + x.walk(PAUSE_LEFT), 1);
        x.march(1);
        due("no gasp in it", x.walk(GASPS), 0);
        x.march(2);
        walkIs("then one, with the beats of GASP alone", x, "10 40 0 0 1 0 8 1 2 8 0 1 1 8 0");
        x.march(2);
        due("none in the midst of it", x.walk(GASPS), 1);

        sentence("there is a gasp: also directly behind a gasp that brought too little");
        x = on("q", 4, 3, false);
        x.set(Checks.BREATH, 5);
        x.set(Checks.REST, 1);
        x.set(Checks.GASP, 1);
        x.march(4);
        walkIs("three gasps for one beat", x, "4 19 0 0 1 0 1 4 0 1 0 3 0 1 0");
        x.march(1);
        due("4 breath is enough", x.walk(STEPS), 2);
    }

    private static void needs() {
        sentence("A beat needs 1 breath, and on a slope above 0 as much more as the slope.");
        int[] needs = {1, 1, 1, 1, 2, 3, 4};
        for (int slope = -3; slope <= 3; slope++) {
            MarchMetres x = on("q", 9, slope, false);
            x.march(1);
            due("breath on slope " + slope, x.walk(BREATH_LEFT), 30 - needs[slope + 3]);
        }

        sentence("TEMPO ticks go by, on a slope above 0 as many more as the slope");
        for (int slope = -3; slope <= 3; slope++) {
            MarchMetres x = on("q", 9, slope, false);
            x.march(1);
            due("ticks on slope " + slope, x.walk(TICKS), 3 + needs[slope + 3]);
        }
    }

    private static void rests() {
        sentence("they become 1 less, the breath becomes REST more (BREATH at most)");
        MarchMetres x = on("qu'", 9, 0, false);
        x.set(Checks.REST, 5);
        x.set(Checks.PAUSE, 2);
        x.march(6);
        x.march(1);
        walkIs("up to one below BREATH", x, "7 28 0 0 0 0 6 29 1 6 0 0 1 6 0");
        x.march(1);
        walkIs("BREATH at most", x, "8 32 0 0 0 0 6 30 0 6 0 0 1 6 0");
        x.set(Checks.REST, 6);
        x.march(7);
        due("up to BREATH itself", x.walk(BREATH_LEFT), 30);
        x.march(1);
        due("and no further", x.walk(BREATH_LEFT), 30);

        sentence("and TEMPO ticks go by; that is all");
        x = on("u'", 9, 3, true);
        x.march(2);
        walkIs("before the pause", x, "2 14 0 0 0 0 2 22 1 2 0 0 1 2 0");
        x.march(1);
        walkIs("a pause on a hill with mud", x, "3 18 0 0 0 0 2 26 0 2 0 0 1 2 0");
    }

    private static void mud() {
        sentence("each MUD-th beat that is sung on the stretch (the MUD-th, the (2 * MUD)-th, and so on) is skipped");
        MarchMetres x = on("q", 20, 0, true);
        x.set(Checks.MUD, 3);
        int[] skipped = {0, 0, 1, 1, 1, 2, 2, 2, 3, 3};
        for (int n = 0; n < skipped.length; n++) {
            x.march(1);
            due("skipped behind " + (n + 1), x.walk(SKIPPED), skipped[n]);
            due("steps behind " + (n + 1), x.walk(STEPS), n + 1 - skipped[n]);
        }

        sentence("it brings none: but it is sung, with breath, ticks and the song");
        x = on("u'", 9, 1, true);
        x.set(Checks.MUD, 2);
        x.march(1);
        walkIs("before", x, "1 5 0 0 1 0 1 28 0 1 0 0 0 1 0");
        x.march(1);
        walkIs("behind the skipped beat", x, "2 10 0 0 0 0 1 26 1 1 1 0 1 2 0");

        sentence("that is sung on the stretch: pauses and gasps do not count");
        x = on("u'", 9, 0, true);
        x.march(4);
        due("the fourth beat behind a pause is the third that is sung", x.walk(STEPS) * 10 + x.walk(SKIPPED), 30);
        x.march(1);
        due("the fifth is skipped", x.walk(STEPS) * 10 + x.walk(SKIPPED), 31);
        x = on("q", 9, 3, true);
        x.set(Checks.BREATH, 8);
        x.march(6);
        due("the sixth beat behind a gasp is the third that is sung", x.walk(STEPS) * 10 + x.walk(SKIPPED), 30);
        x.march(1);
        due("the seventh is skipped", x.walk(STEPS) * 10 + x.walk(SKIPPED), 31);
    }

    private static void mudOfEachStretch() {
        sentence("that is sung on the stretch: each stretch counts for itself");
        MarchMetres x = on("q", 1, 0, true);
        x.set(Checks.MUD, 2);
        x.pave(1, 0, true);
        x.pave(1, 0, false);
        x.pave(2, 0, true);
        due("beats", x.untilWalked(0), 6);
        x.march(500);
        due("skipped", x.walk(SKIPPED), 1);

        sentence("but on a stretch with mud: the others skip none");
        x = on("q", 99, 0, false);
        x.set(Checks.MUD, 2);
        due("99 beats", x.untilWalked(0), x.untilWalked(2) * 3 + 99);
        x.march(500);
        due("none skipped", x.walk(SKIPPED), 0);
    }

    private static void stretches() {
        sentence("If as many steps were made on the stretch as it has, the next stretch begins; behind the last one the road"
            + " is walked.");
        MarchMetres x = on("q", 1, 0, false);
        x.pave(2, 0, false);
        x.march(1);
        walkIs("behind a stretch of one step", x, "1 4 0 0 1 1 0 29 0 1 0 0 0 1 0");
        x.march(1);
        walkIs("one step before the end", x, "2 8 0 0 2 1 1 28 0 2 0 0 0 2 0");
        x.march(1);
        walkIs("walked", x, "3 12 0 0 3 2 0 27 0 3 0 0 0 3 1");
        x = on("q", 99, -1, false);
        x.set(Checks.BREATH, 60);
        x.set(Checks.REST, 20);
        x.set(Checks.GASP, 2);
        x.march(100);
        due("98 steps of 99", x.walk(STEPS), 98);
        due("not yet", x.walk(14), 0);
        x.march(1);
        due("99 of 99", x.walk(14), 1);
        due("all steps", x.walk(9), 99);
    }

    private static void songGoesOn() {
        sentence("Then the song goes on (also in the beat with which the road is walked)");
        MarchMetres x = on("u'd/q", 2, 0, false);
        x.march(2);
        walkIs("to the next foot, and a pause is left", x, "2 8 0 1 0 1 0 28 1 2 0 0 0 2 1");
        x.pave(3, 0, false);
        x.march(500);
        walkIs("to the next line", x, "6 24 1 0 0 2 0 27 0 5 0 0 0 5 1");
        x.pave(4, 0, false);
        x.march(500);
        walkIs("to the song's end", x, "10 40 0 0 0 3 0 23 0 9 0 0 1 9 1");

        sentence("to the next beat of the foot; behind its last one to the next foot");
        x = on("udq", 9, 0, false);
        int[][] places = {{0, 1}, {1, 0}, {1, 1}, {1, 2}, {2, 0}, {2, 1}, {2, 2}, {2, 3}, {0, 0}};
        for (int n = 0; n < places.length; n++) {
            x.march(1);
            due("foot behind " + (n + 1), x.walk(3), places[n][0]);
            due("beat behind " + (n + 1), x.walk(4), places[n][1]);
        }

        sentence("of the next line behind the last foot of a line");
        x = on("u/u/u/u/u/u/u/u/u/u", 99, 0, false);
        for (int n = 1; n <= 10; n++) {
            x.march(2);
            due("line behind " + n, x.walk(2), n % 10);
            due("foot behind " + n, x.walk(3), 0);
            due("songs behind " + n, x.walk(12), n / 10);
        }
        x = on("uuuuuuuuuuuu/d", 99, 0, false);
        x.march(22);
        due("the twelfth foot", x.walk(3), 11);
        x.march(2);
        due("the second line", x.walk(2) * 100 + x.walk(3), 100);
    }

    private static void pausesOfMarks() {
        sentence("if the foot that ended has a breath mark, PAUSE beats of a pause are left");
        MarchMetres x = on("ud'q", 30, 0, false);
        x.set(Checks.PAUSE, 9);
        x.march(2);
        due("none behind the first foot", x.walk(PAUSE_LEFT), 0);
        x.march(2);
        due("none within the second", x.walk(PAUSE_LEFT), 0);
        x.march(1);
        due("nine behind it", x.walk(PAUSE_LEFT), 9);
        x.march(9);
        due("none is left", x.walk(PAUSE_LEFT), 0);
        due("five were sung", x.walk(13), 5);
        x.march(4);
        due("none behind the third", x.walk(PAUSE_LEFT) * 10 + x.walk(12), 1);
        x.set(Checks.PAUSE, 0);
        x.march(5);
        due("PAUSE 0", x.walk(PAUSE_LEFT), 0);
        x = on("qu'", 6, 0, false);
        x.set(Checks.PAUSE, 3);
        x.march(500);
        due("also behind the last beat of song and road", x.walk(PAUSE_LEFT), 3);
        due("at the end", x.walk(12) * 10 + x.walk(14), 11);

        sentence("Behind the last line the song was sung once more, and begins anew.");
        x = on("u", 5, 0, false);
        int[] songs = {0, 1, 1, 2, 2};
        for (int n = 0; n < songs.length; n++) {
            x.march(1);
            due("songs behind " + (n + 1), x.walk(12), songs[n]);
            due("beat behind " + (n + 1), x.walk(4), (n + 1) % 2);
        }
    }

    private static void roadIsWalked() {
        sentence("When the road is walked, there is no beat any more.");
        MarchMetres x = on("qu'", 6, 0, false);
        x.march(6);
        String before = Checks.picture(x);
        due("march", x.march(1), Checks.NOT_POSSIBLE);
        due("also not for the pause that is left", x.march(500), Checks.NOT_POSSIBLE);
        Checks.same("nothing is different", Checks.picture(x), before);
        due("no beats are left", x.untilWalked(0), 0);
        due("together", x.together(), Checks.NONE);
    }

    private static MarchMetres underWay() {
        MarchMetres x = on("ud'/q", 20, 1, true);
        x.march(7);
        due("7 beats", x.walk(0), 7);
        return x;
    }

    private static void begunAnew() {
        String fresh = "0 0 0 0 0 0 0 30 0 0 0 0 0 0 0";
        sentence("A march is begun anew by each change of the song, the road or a setting.");
        MarchMetres x = underWay();
        due("set to what it is", x.set(Checks.TEMPO, 4), 4);
        walkIs("begun by set", x, fresh);
        x = underWay();
        Checks.write(x, "ud'/q");
        due("the same song", x.read(), 2);
        walkIs("begun by read", x, fresh);
        x = underWay();
        due("a stretch behind", x.pave(1, 0, false), 1);
        walkIs("begun by pave", x, fresh);
        x.march(7);
        due("a stretch that was not reached", x.tear(1), 1);
        walkIs("begun by tear", x, fresh);
        x = underWay();
        due("a pause of no beats is a setting, too", x.set(Checks.PAUSE, 0), 1);
        walkIs("begun by it", x, fresh);

        sentence("A march is begun anew by each change: not by the pad, save, undo, or a refused call");
        x = underWay();
        String before = Checks.picture(x);
        x.put('u');
        x.fault();
        x.wipe();
        x.save(0);
        x.set(Checks.TEMPO, 10);
        x.read();
        x.pave(0, 0, false);
        x.tear(1);
        x.march(0);
        Checks.same("under way", Checks.picture(x), before);
        x.set(Checks.TEMPO, 9);
        x.undo();
        Checks.same("under way again", Checks.picture(x), before);
    }

    private static void faultIs(String text, int want) {
        MarchMetres x = new MarchMetres();
        Checks.write(x, text);
        due("fault of " + text, x.fault(), want);
    }

    private static void texts() {
        sentence("The pad is a text of at most 60 characters");
        MarchMetres x = new MarchMetres();
        Checks.write(x, "u'u'u'u'u'u'u'u'u'u'u'u'/u'u'u'u'u'u'u'u'u'u'u'u'/u'u'u'u'uu");
        due("60", x.count(11), 60);
        due("the 61st", x.put('u'), Checks.TOO_MANY);
        due("60 stay", x.count(11), 60);
        due("they are a song", x.read(), 3);
        due("to the last character", x.line(2, 0) * 10 + x.line(2, 2), 64);

        sentence("line = foot { foot }, 1 to 12 feet");
        faultIs("/", 0);
        faultIs("u", Checks.NONE);
        faultIs("uuuuuuuuuuuu", Checks.NONE);
        faultIs("uuuuuuuuuuuuu", 12);
        faultIs("u/dddddddddddd", Checks.NONE);
        faultIs("u/ddddddddddddd", 14);
        faultIs("q'q'q'q'q'q'q'q'q'q'q'q'", Checks.NONE);
        faultIs("q'q'q'q'q'q'q'q'q'q'q'q'q", 24);

        sentence("foot = ( \"u\" | \"d\" | \"q\" ) [ \"'\" ]");
        for (char c = 33; c <= 126; c++) {
            boolean isFoot = c == 'u' || c == 'd' || c == 'q';
            faultIs(String.valueOf(c), isFoot ? Checks.NONE : 0);
            boolean mayFollow = isFoot || c == '\'';
            faultIs("u" + c, mayFollow ? Checks.NONE : c == '/' ? 2 : 1);
            faultIs("u'" + c, isFoot ? Checks.NONE : c == '/' ? 3 : 2);
            faultIs("u/" + c, isFoot ? Checks.NONE : 2);
        }

        sentence("there are 10 lines at most");
        faultIs("u/u/u/u/u/u/u/u/u/u", Checks.NONE);
        faultIs("u/u/u/u/u/u/u/u/u/u'", Checks.NONE);
        faultIs("u/u/u/u/u/u/u/u/u/uuuuuuuuuuuu", Checks.NONE);
        faultIs("u/u/u/u/u/u/u/u/u/uuuuuuuuuuuu/", 30);
        faultIs("u/u/u/u/u/u/u/u/u/u/", 19);
        faultIs("u/u/u/u/u/u/u/u/u/u/u", 19);
    }

    private static void faults() {
        sentence("The fault is the index of the first character that cannot stand at its place");
        faultIs("xyz", 0);
        faultIs("'u'", 0);
        faultIs("u''x", 2);
        faultIs("u//x", 2);
        faultIs("u'd''/x", 4);
        faultIs("u/d/'", 4);
        faultIs("uuuuuuuuuuuu'/dddddddddddd'd/q", 27);
        String sixty = "u'u'u'u'u'u'u'u'u'u'u'u'/u'u'u'u'u'u'u'u'u'u'u'u'/u'u'u'u'ux";
        faultIs(sixty, 59);

        sentence("if there is none and the text ends too early (also if it is empty), it is the length of the text");
        faultIs("", 0);
        faultIs("u/", 2);
        faultIs("u'/", 3);
        faultIs("u/u/u/u/u/u/u/u/u/", 18);
        faultIs(sixty.replace('x', '/'), 60);
    }

    public static void main(String[] args) {
        conventions();
        settings();
        endsOfTheSettings();
        songs();
        roads();
        firstPlaces();
        gasps();
        needs();
        rests();
        mud();
        mudOfEachStretch();
        stretches();
        songGoesOn();
        pausesOfMarks();
        roadIsWalked();
        begunAnew();
        texts();
        faults();
        Checks.end("TermsTest");
    }
}
