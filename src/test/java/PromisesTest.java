/** Each promise by itself: ordinary inputs, the edges that the document names, and wrong inputs. */
public final class PromisesTest {
    private static final int MIN = Integer.MIN_VALUE;
    private static final int MAX = Integer.MAX_VALUE;
    private static final int[] LEAST = {1, 0, 1, 1, 5, 2};
    private static final int[] MOST = {9, 9, 9, 20, 60, 9};
    private static final int[] FIRST = {4, 1, 3, 4, 30, 4};
    private static final String FRESH = "0 0 0 0 0 0 0 30 0 0 0 0 0 0 0";

    private PromisesTest() {
    }

    private static void due(String what, long got, long want) {
        Checks.due(what, got, want);
    }

    private static void walkIs(String when, MarchMetres x, String want) {
        Checks.same("walk " + when, Checks.walked(x), want);
    }

    private static MarchMetres sings(String text) {
        return Checks.withSong(text);
    }

    /** A march in its second song, in a gasp on a muddy hill, so that most of its numbers are not 0. */
    private static MarchMetres underWay() {
        MarchMetres x = sings("ud'/qd");
        x.pave(5, 1, true);
        x.pave(20, 3, true);
        x.march(34);
        walkIs("under way", x, "34 187 1 1 0 1 12 10 1 17 4 4 1 21 0");
        return x;
    }

    private static void promise1() {
        MarchMetres x = new MarchMetres();
        for (int what = 0; what <= 5; what++) {
            due("1: first value " + what, x.count(what), FIRST[what]);
        }
        for (int what = 6; what <= 12; what++) {
            due("1: first count " + what, x.count(what), 0);
        }
        walkIs("1: first", x, FRESH);
        due("1: line", x.line(0, 0), Checks.NO_SUCH);
        due("1: foot", x.foot(0, 0, 0), Checks.NO_SUCH);
        due("1: stretch", x.stretch(0, 0), Checks.NO_SUCH);
        due("1: fault", x.fault(), 0);
        due("1: undo", x.undo(), Checks.NOT_POSSIBLE);
        due("1: restore 0", x.restore(0), Checks.NOT_POSSIBLE);
        due("1: restore 1", x.restore(1), Checks.NOT_POSSIBLE);
        due("1: march", x.march(1), Checks.NOT_POSSIBLE);
        new MarchMetres().set(0, 9);
        due("1: objects share nothing", x.count(0), 4);
    }

    private static void promise2() {
        for (int setting = 0; setting < 6; setting++) {
            MarchMetres x = new MarchMetres();
            due("2: below " + setting, x.set(setting, LEAST[setting] - 1), Checks.BAD_VALUE);
            due("2: above " + setting, x.set(setting, MOST[setting] + 1), Checks.BAD_VALUE);
            due("2: far below " + setting, x.set(setting, MIN), Checks.BAD_VALUE);
            due("2: far above " + setting, x.set(setting, MAX), Checks.BAD_VALUE);
            due("2: errors record nothing", x.count(12), 0);
            due("2: least " + setting, x.set(setting, LEAST[setting]), FIRST[setting]);
            due("2: most " + setting, x.set(setting, MOST[setting]), LEAST[setting]);
            due("2: the same again " + setting, x.set(setting, MOST[setting]), MOST[setting]);
            due("2: it is a change, also when nothing differs", x.count(12), 3);
            for (int other = 0; other < 6; other++) {
                due("2: setting " + other, x.count(other), other == setting ? MOST[other] : FIRST[other]);
            }
        }
        MarchMetres x = underWay();
        String before = Checks.picture(x);
        due("2: no setting -1", x.set(-1, 4), Checks.BAD_VALUE);
        due("2: no setting 6", x.set(6, 4), Checks.BAD_VALUE);
        due("2: no setting MIN", x.set(MIN, 4), Checks.BAD_VALUE);
        due("2: no setting MAX", x.set(MAX, 4), Checks.BAD_VALUE);
        Checks.same("2: an error changes nothing", Checks.picture(x), before);
        due("2: set to what it is", x.set(4, 30), 30);
        walkIs("2: begun anew", x, FRESH);
        x.march(3);
        due("2: less breath", x.set(4, 7), 30);
        due("2: begun with BREATH", x.walk(7), 7);
    }

    private static void promise3() {
        MarchMetres x = underWay();
        String before = Checks.picture(x);
        due("3: an empty pad", x.read(), Checks.BAD_TEXT);
        Checks.write(x, "ud/");
        due("3: it ends too early", x.read(), Checks.BAD_TEXT);
        due("3: the pad stays", x.count(11), 3);
        due("3: nothing is recorded", x.count(12), 4);
        Checks.same("3: an error changes nothing", Checks.picture(x), before);
        x.put(Checks.asNumber("q'q"));
        due("3: read", x.read(), 2);
        due("3: the pad is empty", x.count(11), 0);
        due("3: it is a change", x.count(12), 5);
        walkIs("3: begun anew", x, FRESH);
        due("3: feet of line 0", x.line(0, 0), 2);
        due("3: foot 0 0", x.foot(0, 0, 0), 2);
        due("3: foot 0 1", x.foot(0, 1, 0), 3);
        due("3: foot 1 0", x.foot(1, 0, 0), 4);
        due("3: mark behind 0 1", x.foot(0, 1, 1), 0);
        due("3: mark behind 1 0", x.foot(1, 0, 1), 1);
        due("3: mark behind 1 1", x.foot(1, 1, 1), 0);
        due("3: no third line", x.line(2, 0), Checks.NO_SUCH);
        Checks.sing(x, "u");
        due("3: a shorter song", x.line(1, 0), Checks.NO_SUCH);
        due("3: its feet", x.line(0, 0), 1);
        Checks.sing(x, "u/u/u/u/u/u/u/u/u/d'");
        due("3: ten lines", x.count(6), 10);
        due("3: the last of them", x.foot(9, 0, 0), 3);
        Checks.sing(x, "u'u'u'u'u'u'u'u'u'u'u'q'/q'q'q'q'q'q'q'q'q'q'q'u'");
        due("3: twelve feet", x.line(0, 0), 12);
        due("3: the twelfth", x.foot(0, 11, 0), 4);
        due("3: twelve feet in the second line", x.line(1, 0), 12);
        due("3: the first of them", x.foot(1, 0, 0), 4);
        due("3: the last of them", x.foot(1, 11, 0), 2);
        Checks.sing(x, "uuuuuuuuuuuu/dddddddddddd");
        due("3: marks of an earlier song are gone", x.count(8), 0);
    }

    private static void promise4() {
        MarchMetres x = new MarchMetres();
        due("4: no steps", x.pave(0, 0, false), Checks.BAD_VALUE);
        due("4: steps below 0", x.pave(MIN, 0, false), Checks.BAD_VALUE);
        due("4: 100 steps", x.pave(100, 0, false), Checks.BAD_VALUE);
        due("4: many steps", x.pave(MAX, 0, false), Checks.BAD_VALUE);
        due("4: slope -4", x.pave(1, -4, false), Checks.BAD_VALUE);
        due("4: slope 4", x.pave(1, 4, false), Checks.BAD_VALUE);
        due("4: slope MIN", x.pave(1, MIN, true), Checks.BAD_VALUE);
        due("4: slope MAX", x.pave(1, MAX, true), Checks.BAD_VALUE);
        due("4: errors record nothing", x.count(12), 0);
        due("4: errors pave nothing", x.count(9), 0);
        due("4: 1 step", x.pave(1, -3, false), 0);
        due("4: 99 steps", x.pave(99, 3, true), 1);
        due("4: recorded", x.count(12), 2);
        due("4: steps 0", x.stretch(0, 0), 1);
        due("4: slope 0", x.stretch(0, 1), 0);
        due("4: mud 0", x.stretch(0, 2), 0);
        due("4: steps 1", x.stretch(1, 0), 99);
        due("4: slope 1", x.stretch(1, 1), 6);
        due("4: mud 1", x.stretch(1, 2), 1);
        for (int n = 2; n < 12; n++) {
            due("4: stretch " + n, x.pave(n, 0, false), n);
        }
        due("4: a thirteenth", x.pave(5, 0, false), Checks.TOO_MANY);
        due("4: BAD_VALUE goes before TOO_MANY", x.pave(0, 0, false), Checks.BAD_VALUE);
        due("4: twelve stay", x.count(9), 12);
        x = underWay();
        due("4: behind the others", x.pave(4, 0, false), 2);
        walkIs("4: begun anew", x, FRESH);
    }

    private static void promise5() {
        MarchMetres x = sings("u");
        due("5: no road", x.tear(0), Checks.NO_SUCH);
        x.pave(10, 1, true);
        x.pave(20, 2, false);
        x.pave(30, 3, true);
        x.march(3);
        String before = Checks.picture(x);
        int changes = x.count(12);
        due("5: no stretch -1", x.tear(-1), Checks.NO_SUCH);
        due("5: no stretch 3", x.tear(3), Checks.NO_SUCH);
        due("5: no stretch MIN", x.tear(MIN), Checks.NO_SUCH);
        due("5: no stretch MAX", x.tear(MAX), Checks.NO_SUCH);
        Checks.same("5: an error changes nothing", Checks.picture(x), before);
        due("5: and records nothing", x.count(12), changes);
        due("5: tear 1", x.tear(1), 20);
        walkIs("5: begun anew", x, FRESH);
        due("5: it is a change", x.count(12), 6);
        due("5: two are left", x.count(9), 2);
        due("5: steps 0", x.stretch(0, 0), 10);
        due("5: steps 1", x.stretch(1, 0), 30);
        due("5: slope 1", x.stretch(1, 1), 6);
        due("5: mud 1", x.stretch(1, 2), 1);
        due("5: no stretch 2", x.stretch(2, 0), Checks.NO_SUCH);
        due("5: tear the first", x.tear(0), 10);
        due("5: tear the last", x.tear(0), 30);
        due("5: none is left", x.tear(0), Checks.NO_SUCH);
        due("5: it is not walked without a road", x.walk(14), 0);
        for (int n = 0; n < 12; n++) {
            x.pave(n + 1, 0, n == 11);
        }
        due("5: tear the first of twelve", x.tear(0), 1);
        due("5: the last moved", x.stretch(10, 0), 12);
        due("5: with its mud", x.stretch(10, 2), 1);
        due("5: there is room again", x.pave(50, -1, false), 11);
        due("5: tear the twelfth", x.tear(11), 50);
    }

    private static void promise6() {
        MarchMetres x = new MarchMetres();
        due("6: without anything", x.begin(), 0);
        due("6: it is a change, also when nothing differs", x.count(12), 1);
        x = underWay();
        due("6: 34 beats", x.begin(), 34);
        walkIs("6: begun anew", x, FRESH);
        due("6: again", x.begin(), 0);
        due("6: recorded", x.count(12), 6);
        x.march(4);
        walkIs("6: the mud is new, too", x, "4 20 0 1 2 0 3 22 0 3 1 0 0 4 0");
        x.set(4, 8);
        x.march(2);
        x.begin();
        due("6: begun with BREATH", x.walk(7), 8);
    }

    private static void promise7() {
        MarchMetres x = new MarchMetres();
        due("7: neither song nor road", x.march(1), Checks.NOT_POSSIBLE);
        due("7: BAD_VALUE goes first", x.march(0), Checks.BAD_VALUE);
        x.pave(20, 0, false);
        due("7: no song", x.march(1), Checks.NOT_POSSIBLE);
        due("7: nothing is recorded", x.count(12), 1);
        x = sings("ud'/q");
        due("7: no road", x.march(1), Checks.NOT_POSSIBLE);
        x.pave(11, 0, false);
        due("7: 0 beats", x.march(0), Checks.BAD_VALUE);
        due("7: -1 beats", x.march(-1), Checks.BAD_VALUE);
        due("7: 501 beats", x.march(501), Checks.BAD_VALUE);
        due("7: MIN beats", x.march(MIN), Checks.BAD_VALUE);
        due("7: MAX beats", x.march(MAX), Checks.BAD_VALUE);
        due("7: errors record nothing", x.count(12), 2);
        due("7: 1 beat", x.march(1), 1);
        due("7: it is a change", x.count(12), 3);
        due("7: the rest", x.march(500), 11);
        walkIs("7: walked", x, "12 48 0 1 0 1 0 23 0 11 0 0 1 11 1");
        due("7: walked", x.march(1), Checks.NOT_POSSIBLE);
        due("7: walked, and wrong", x.march(501), Checks.BAD_VALUE);
        due("7: the last ones record nothing", x.count(12), 4);
        x.begin();
        due("7: exactly to the end", x.march(12), 12);
        due("7: it is the end", x.walk(14), 1);
        x = sings("u");
        for (int n = 0; n < 6; n++) {
            x.pave(99, 0, false);
        }
        due("7: 500 beats", x.march(500), 500);
        due("7: are all there", x.walk(0), 500);
    }

    /** How a march goes, beat by beat; the numbers were worked out by hand. */
    private static void marching() {
        MarchMetres x = sings("ud'/q");
        x.pave(10, 0, false);
        x.march(2);
        walkIs("M: the next foot", x, "2 8 0 1 0 0 2 28 0 2 0 0 0 2 0");
        x.march(3);
        walkIs("M: a breath mark, and a line", x, "5 20 1 0 0 0 5 25 1 5 0 0 0 5 0");
        x.march(1);
        walkIs("M: a pause", x, "6 24 1 0 0 0 5 29 0 5 0 0 0 5 0");
        x.march(4);
        walkIs("M: the song anew", x, "10 40 0 0 0 0 9 25 0 9 0 0 1 9 0");
        gaspsAndBreath();
        pauses();
        mud();
        slopes();
    }

    private static MarchMetres shortOfBreath(int rest, int gasp, String song) {
        MarchMetres x = sings(song);
        x.set(4, 5);
        x.set(3, rest);
        x.set(2, gasp);
        return x;
    }

    private static void gaspsAndBreath() {
        MarchMetres x = shortOfBreath(2, 2, "q");
        x.pave(3, 2, false);
        x.march(1);
        walkIs("M: a slope", x, "1 6 0 0 1 0 1 2 0 1 0 0 0 1 0");
        x.march(1);
        walkIs("M: a gasp", x, "2 10 0 0 1 0 1 4 1 1 0 1 0 1 0");
        x.march(1);
        walkIs("M: BREATH at most", x, "3 14 0 0 1 0 1 5 0 1 0 1 0 1 0");
        x.march(4);
        walkIs("M: walked with gasps", x, "7 34 0 0 3 1 0 2 0 3 0 2 0 3 1");
        x = shortOfBreath(1, 1, "q");
        x.pave(2, 3, false);
        x.march(500);
        walkIs("M: gasp upon gasp", x, "5 26 0 0 2 1 0 0 0 2 0 3 0 2 1");
        x = shortOfBreath(20, 1, "q");
        x.pave(5, 0, false);
        x.march(500);
        walkIs("M: as much breath as is needed is enough", x, "5 20 0 0 1 1 0 0 0 5 0 0 1 5 1");
    }

    private static void pauses() {
        MarchMetres x = shortOfBreath(1, 9, "u'");
        x.set(1, 2);
        x.pave(4, 1, false);
        x.march(2);
        walkIs("M: a pause of two beats begins", x, "2 10 0 0 0 0 2 1 2 2 0 0 1 2 0");
        x.march(1);
        walkIs("M: no gasp in a pause", x, "3 14 0 0 0 0 2 2 1 2 0 0 1 2 0");
        x.march(500);
        walkIs("M: the song goes on in the last beat", x, "15 64 0 0 0 1 0 3 2 4 0 1 2 4 1");
        x = shortOfBreath(1, 9, "u'");
        x.set(1, 0);
        x.pave(3, 0, false);
        x.march(500);
        walkIs("M: a pause of no beats", x, "3 12 0 0 1 1 0 2 0 3 0 0 1 3 1");
    }

    private static void mud() {
        MarchMetres x = sings("q");
        x.set(5, 2);
        x.pave(1, 0, true);
        x.pave(2, 0, true);
        x.march(3);
        walkIs("M: a beat is skipped", x, "3 12 0 0 3 1 1 27 0 2 1 0 0 3 0");
        x.march(500);
        walkIs("M: each stretch skips for itself", x, "4 16 0 0 0 2 0 26 0 3 1 0 1 4 1");
        x = sings("q");
        x.set(5, 3);
        x.pave(5, 0, true);
        x.march(500);
        walkIs("M: the third and the sixth are skipped", x, "7 28 0 0 3 1 0 23 0 5 2 0 1 7 1");
        x = sings("q");
        x.set(5, 2);
        x.pave(4, 0, false);
        x.pave(1, 0, true);
        x.pave(4, 0, false);
        x.march(500);
        walkIs("M: no mud skips nothing", x, "9 36 0 0 1 3 0 21 0 9 0 0 2 9 1");
    }

    private static void slopes() {
        int[] ticks = {8, 8, 8, 8, 10, 12, 14};
        int[] breath = {28, 28, 28, 28, 26, 24, 22};
        for (int slope = -3; slope <= 3; slope++) {
            MarchMetres x = sings("q");
            x.pave(2, slope, false);
            x.march(2);
            due("M: ticks on slope " + slope, x.walk(1), ticks[slope + 3]);
            due("M: breath on slope " + slope, x.walk(7), breath[slope + 3]);
        }
        MarchMetres x = sings("q");
        x.set(0, 9);
        x.pave(1, 3, true);
        x.pave(1, -3, true);
        x.march(500);
        walkIs("M: each stretch has its slope", x, "2 21 0 0 2 2 0 25 0 2 0 0 0 2 1");
    }

    private static void promise8() {
        MarchMetres x = new MarchMetres();
        due("8: no song", x.line(0, 0), Checks.NO_SUCH);
        x = sings("u'd'q/qq'/d");
        int[][] want = {{3, 9, 2, 11}, {2, 8, 1, 9}, {1, 3, 0, 3}};
        for (int line = 0; line < 3; line++) {
            for (int what = 0; what < 4; what++) {
                due("8: line " + line + " " + what, x.line(line, what), want[line][what]);
            }
            due("8: what 4", x.line(line, 4), Checks.BAD_VALUE);
            due("8: what -1", x.line(line, -1), Checks.BAD_VALUE);
        }
        due("8: no line 3", x.line(3, 0), Checks.NO_SUCH);
        due("8: no line -1", x.line(-1, 0), Checks.NO_SUCH);
        due("8: no line MIN", x.line(MIN, 0), Checks.NO_SUCH);
        due("8: no line MAX", x.line(MAX, 0), Checks.NO_SUCH);
        due("8: NO_SUCH goes first", x.line(3, 4), Checks.NO_SUCH);
        due("8: what MIN", x.line(0, MIN), Checks.BAD_VALUE);
        due("8: what MAX", x.line(0, MAX), Checks.BAD_VALUE);
        x.set(1, 0);
        due("8: PAUSE 0", x.line(0, 3), 9);
        x.set(1, 9);
        due("8: PAUSE 9", x.line(0, 3), 27);
        due("8: PAUSE does not change the beats that are sung", x.line(0, 1), 9);
    }

    private static void promise9() {
        MarchMetres x = new MarchMetres();
        due("9: no song", x.foot(0, 0, 0), Checks.NO_SUCH);
        x = sings("ud'/q'");
        int[][] want = {{0, 0, 2, 0}, {0, 1, 3, 1}, {1, 0, 4, 1}};
        for (int[] w : want) {
            due("9: beats of " + w[0] + " " + w[1], x.foot(w[0], w[1], 0), w[2]);
            due("9: mark of " + w[0] + " " + w[1], x.foot(w[0], w[1], 1), w[3]);
        }
        due("9: no line 2", x.foot(2, 0, 0), Checks.NO_SUCH);
        due("9: no line -1", x.foot(-1, 0, 0), Checks.NO_SUCH);
        due("9: no line MIN", x.foot(MIN, 0, 0), Checks.NO_SUCH);
        due("9: no line MAX", x.foot(MAX, 0, 0), Checks.NO_SUCH);
        due("9: no foot 2", x.foot(0, 2, 0), Checks.NO_SUCH);
        due("9: no foot 1 in the shorter line", x.foot(1, 1, 0), Checks.NO_SUCH);
        due("9: no foot -1", x.foot(1, -1, 0), Checks.NO_SUCH);
        due("9: no foot 12", x.foot(0, 12, 0), Checks.NO_SUCH);
        due("9: no foot MIN", x.foot(0, MIN, 0), Checks.NO_SUCH);
        due("9: no foot MAX", x.foot(0, MAX, 0), Checks.NO_SUCH);
        due("9: NO_SUCH goes first", x.foot(0, 2, 2), Checks.NO_SUCH);
        due("9: what 2", x.foot(0, 0, 2), Checks.BAD_VALUE);
        due("9: what -1", x.foot(0, 0, -1), Checks.BAD_VALUE);
        due("9: what MIN", x.foot(0, 0, MIN), Checks.BAD_VALUE);
        due("9: what MAX", x.foot(0, 0, MAX), Checks.BAD_VALUE);
    }

    private static void promise10() {
        MarchMetres x = new MarchMetres();
        due("10: no road", x.stretch(0, 0), Checks.NO_SUCH);
        x.pave(7, -2, false);
        x.pave(6, 3, true);
        int[][] want = {{7, 1, 0, 7}, {6, 6, 1, 7}};
        for (int stretch = 0; stretch < 2; stretch++) {
            for (int what = 0; what < 4; what++) {
                due("10: stretch " + stretch + " " + what, x.stretch(stretch, what), want[stretch][what]);
            }
        }
        due("10: no stretch 2", x.stretch(2, 0), Checks.NO_SUCH);
        due("10: no stretch -1", x.stretch(-1, 0), Checks.NO_SUCH);
        due("10: no stretch MIN", x.stretch(MIN, 0), Checks.NO_SUCH);
        due("10: no stretch MAX", x.stretch(MAX, 0), Checks.NO_SUCH);
        due("10: NO_SUCH goes first", x.stretch(2, 4), Checks.NO_SUCH);
        due("10: what 4", x.stretch(0, 4), Checks.BAD_VALUE);
        due("10: what -1", x.stretch(0, -1), Checks.BAD_VALUE);
        due("10: what MIN", x.stretch(0, MIN), Checks.BAD_VALUE);
        due("10: what MAX", x.stretch(0, MAX), Checks.BAD_VALUE);
        beatsToSing();
    }

    private static void beatsToSing() {
        int[] steps = {1, 2, 3, 4, 8, 9, 98, 99};
        for (int mud = 2; mud <= 9; mud++) {
            MarchMetres x = sings("u");
            x.set(5, mud);
            for (int n = 0; n < steps.length; n++) {
                x.pave(steps[n], 0, true);
                due("10: MUD " + mud + ", steps " + steps[n], x.stretch(n, 3), sungByHand(steps[n], mud));
            }
            int toSing = 0;
            for (int n = 0; n < steps.length; n++) {
                toSing += x.stretch(n, 3);
            }
            x.march(500);
            x.march(500);
            due("10: so many are sung with MUD " + mud, x.walk(13), toSing);
            due("10: on the whole road", x.walk(14), 1);
        }
    }

    private static int sungByHand(int steps, int mud) {
        int sung = 0;
        for (int made = 0; made < steps;) {
            sung++;
            made += sung % mud == 0 ? 0 : 1;
        }
        return sung;
    }

    private static void promise11() {
        MarchMetres x = new MarchMetres();
        due("11: what -1", x.walk(-1), Checks.BAD_VALUE);
        due("11: what 15", x.walk(15), Checks.BAD_VALUE);
        due("11: what MIN", x.walk(MIN), Checks.BAD_VALUE);
        due("11: what MAX", x.walk(MAX), Checks.BAD_VALUE);
        x = shortOfBreath(2, 2, "u'd/q'q'");
        x.set(1, 3);
        x.set(5, 2);
        x.pave(2, 0, false);
        x.pave(3, 1, true);
        // 2 sung, 3 of a pause, 2 sung (one skipped), 2 of a gasp, 2 sung, 2 of a gasp, 1 sung
        x.march(8);
        walkIs("11: in a gasp", x, "8 34 0 1 2 1 1 3 1 3 1 1 0 4 0");
        x.march(4);
        walkIs("11: in another", x, "12 52 1 0 1 1 2 3 1 4 2 2 0 6 0");
        x.march(500);
        walkIs("11: at the end", x, "14 61 1 0 2 2 0 3 0 5 2 2 0 7 1");
        x = sings("u");
        x.march(1);
        due("11: without a road it is not walked", x.walk(14), 0);
    }

    private static void promise12() {
        MarchMetres x = sings("u'd'/q");
        x.pave(99, 0, true);
        x.pave(98, 0, false);
        x.put(Checks.asNumber("xyz"));
        int[] want = {4, 1, 3, 4, 30, 4, 2, 9, 2, 2, 197, 3, 3};
        for (int what = 0; what <= 12; what++) {
            due("12: count " + what, x.count(what), want[what]);
        }
        due("12: what -1", x.count(-1), Checks.BAD_VALUE);
        due("12: what 13", x.count(13), Checks.BAD_VALUE);
        due("12: what MIN", x.count(MIN), Checks.BAD_VALUE);
        due("12: what MAX", x.count(MAX), Checks.BAD_VALUE);
        x.begin();
        x.begin();
        x.begin();
        due("12: six changes", x.count(12), 6);
        x.begin();
        due("12: six at most", x.count(12), 6);
        for (int setting = 0; setting < 6; setting++) {
            x.set(setting, MOST[setting]);
            due("12: setting " + setting, x.count(setting), MOST[setting]);
        }
    }

    private static void promise13() {
        MarchMetres x = new MarchMetres();
        due("13: neither song nor road", x.untilWalked(0), Checks.NOT_POSSIBLE);
        due("13: BAD_VALUE goes first", x.untilWalked(4), Checks.BAD_VALUE);
        x.pave(1, 0, false);
        due("13: no song", x.untilWalked(0), Checks.NOT_POSSIBLE);
        x = sings("q");
        due("13: no road", x.untilWalked(0), Checks.NOT_POSSIBLE);
        x = shortOfBreath(2, 2, "q");
        x.pave(4, 2, false);
        untilWalkedIs("from the beginning", x, 10, 48, 3, 1);
        x.march(2);
        String before = Checks.picture(x);
        untilWalkedIs("behind two beats", x, 8, 38, 2, 1);
        Checks.same("13: nothing changes", Checks.picture(x), before);
        due("13: nothing is recorded", x.count(12), 6);
        x.march(8);
        untilWalkedIs("at the end", x, 0, 0, 0, 0);
        due("13: what -1", x.untilWalked(-1), Checks.BAD_VALUE);
        due("13: what MIN", x.untilWalked(MIN), Checks.BAD_VALUE);
        due("13: what MAX", x.untilWalked(MAX), Checks.BAD_VALUE);
        x = longWay();
        for (int what = 0; what < 4; what++) {
            due("13: in 5041 beats", x.untilWalked(what), Checks.NONE);
        }
        x.march(40);
        due("13: in 5001 beats", x.untilWalked(0), Checks.NONE);
        x.march(1);
        untilWalkedIs("in 5000 beats", x, 5000, 5000 * 4 + 500 * 3, 500, 5);
    }

    private static void untilWalkedIs(String when, MarchMetres x, int beats, int ticks, int gasps, int songs) {
        due("13: beats " + when, x.untilWalked(0), beats);
        due("13: ticks " + when, x.untilWalked(1), ticks);
        due("13: gasps " + when, x.untilWalked(2), gasps);
        due("13: songs " + when, x.untilWalked(3), songs);
    }

    /**
     * 505 steps, of which each needs a gasp of nine beats before it, but the first: 5041 beats. The
     * song has 101 beats, so that it and a stretch end together only at the end.
     */
    private static MarchMetres longWay() {
        MarchMetres x = shortOfBreath(1, 9, "qqqqqqqqqqqq/qqqqqqqqqqqq/du");
        for (int n = 0; n < 5; n++) {
            x.pave(99, 3, false);
        }
        x.pave(10, 3, false);
        return x;
    }

    private static void promise14() {
        MarchMetres x = new MarchMetres();
        due("14: neither song nor road", x.together(), Checks.NOT_POSSIBLE);
        x.pave(2, 0, false);
        due("14: no song", x.together(), Checks.NOT_POSSIBLE);
        x = sings("ud'/q");
        due("14: no road", x.together(), Checks.NOT_POSSIBLE);
        x.pave(9, 0, false);
        due("14: in the last beat", x.together(), 10);
        x.pave(3, 0, false);
        due("14: before the end", x.together(), 10);
        x.march(9);
        String before = Checks.picture(x);
        due("14: in the next beat", x.together(), 1);
        Checks.same("14: nothing changes", Checks.picture(x), before);
        x.march(1);
        due("14: not again", x.together(), Checks.NONE);
        x.march(500);
        due("14: walked", x.together(), Checks.NONE);
        x = sings("ud'/q");
        x.pave(10, 0, false);
        x.pave(7, 0, false);
        due("14: never", x.together(), Checks.NONE);
        x.pave(1, 0, false);
        due("14: behind two songs", x.together(), 20);
        x = sings("q");
        x.set(5, 2);
        x.pave(2, 0, true);
        x.pave(3, 0, true);
        due("14: skipped beats are sung", x.together(), 8);
        x = longWay();
        due("14: in 5041 beats", x.together(), Checks.NONE);
        x.march(40);
        due("14: in 5001 beats", x.together(), Checks.NONE);
        x.march(1);
        due("14: in 5000 beats", x.together(), 5000);
    }

    private static void promise15() {
        MarchMetres x = new MarchMetres();
        due("15: no road", x.meets(0, 0), Checks.NO_SUCH);
        x.pave(12, 0, true);
        due("15: no song", x.meets(0, 0), Checks.NOT_POSSIBLE);
        due("15: BAD_VALUE goes before NOT_POSSIBLE", x.meets(0, 2), Checks.BAD_VALUE);
        due("15: NO_SUCH goes before BAD_VALUE", x.meets(1, 2), Checks.NO_SUCH);
        Checks.sing(x, "uq'q'u/qu");
        x.pave(9, 3, false);
        x.pave(18, 0, false);
        x.pave(1, 0, false);
        x.pave(36, 0, false);
        x.pave(97, 0, false);
        x.pave(99, 0, false);
        x.pave(54, 0, true);
        int[] want = {2, 1, 1, 1, 2, 97, 11, 3};
        for (int stretch = 0; stretch < want.length; stretch++) {
            due("15: by counting " + stretch, x.meets(stretch, 0), want[stretch]);
            due("15: at once " + stretch, x.meets(stretch, 1), want[stretch]);
        }
        due("15: no stretch -1", x.meets(-1, 0), Checks.NO_SUCH);
        due("15: no stretch 8", x.meets(8, 0), Checks.NO_SUCH);
        due("15: no stretch MIN", x.meets(MIN, 0), Checks.NO_SUCH);
        due("15: no stretch MAX", x.meets(MAX, 1), Checks.NO_SUCH);
        due("15: way -1", x.meets(0, -1), Checks.BAD_VALUE);
        due("15: way 2", x.meets(0, 2), Checks.BAD_VALUE);
        due("15: way MIN", x.meets(0, MIN), Checks.BAD_VALUE);
        due("15: way MAX", x.meets(0, MAX), Checks.BAD_VALUE);
        x.march(3);
        due("15: wherever the march is", x.meets(0, 1), 2);
        due("15: nothing changes", x.walk(0), 3);
    }

    private static void promise16() {
        MarchMetres x = new MarchMetres();
        due("16: neither song nor road", x.leastBreath(), Checks.NOT_POSSIBLE);
        x.pave(4, 0, false);
        due("16: no song", x.leastBreath(), Checks.NOT_POSSIBLE);
        x = sings("u");
        due("16: no road", x.leastBreath(), Checks.NOT_POSSIBLE);
        x.pave(4, 0, false);
        due("16: 5 at least", x.leastBreath(), 5);
        x.pave(1, 0, false);
        due("16: 5 beats", x.leastBreath(), 5);
        x.pave(1, -3, false);
        due("16: 6 beats", x.leastBreath(), 6);
        x.pave(13, 3, false);
        due("16: hills", x.leastBreath(), 58);
        x.pave(2, 0, true);
        due("16: 60 at most", x.leastBreath(), 60);
        x.pave(1, 0, false);
        due("16: 61 are too much", x.leastBreath(), Checks.NONE);
        due("16: nothing changes", x.count(4), 30);
        leastBreathWithPauses();
        x = shortOfBreath(20, 9, "d'");
        x.set(1, 4);
        x.set(5, 2);
        for (int n = 0; n < 10; n++) {
            x.pave(99, 0, true);
        }
        x.pave(88, 0, true);
        due("16: in 5001 beats", x.leastBreath(), Checks.NONE);
        x.tear(10);
        x.pave(44, 0, true);
        x.pave(44, 0, true);
        due("16: 5000 beats", x.untilWalked(0), 5000);
        due("16: in 5000 beats", x.leastBreath(), 5);
    }

    private static void leastBreathWithPauses() {
        MarchMetres x = sings("u'");
        x.set(3, 1);
        x.pave(20, 0, false);
        due("16: a pause brings back 1", x.leastBreath(), 11);
        x.set(4, 5);
        due("16: BREATH itself does not matter", x.leastBreath(), 11);
        x.march(10);
        String before = Checks.picture(x);
        due("16: it is told from the beginning", x.leastBreath(), 11);
        Checks.same("16: nothing changes", Checks.picture(x), before);
        x.set(4, 11);
        due("16: with it there is no gasp", x.untilWalked(2), 0);
        x.set(4, 10);
        due("16: with 1 less there is one", x.untilWalked(2), 1);
        x.set(3, 20);
        due("16: a pause brings back no more than was used", x.leastBreath(), 5);
        x.tear(0);
        x.pave(4, 3, false);
        due("16: up to a hill's foot", x.leastBreath(), 8);
        x.set(5, 2);
        x.tear(0);
        x.set(1, 0);
        x.pave(5, 0, true);
        due("16: skipped beats need breath", x.leastBreath(), 9);
    }

    private static void promise17() {
        MarchMetres x = new MarchMetres();
        due("17: neither song nor road", x.bestPause(), Checks.NOT_POSSIBLE);
        x.pave(4, 0, false);
        due("17: no song", x.bestPause(), Checks.NOT_POSSIBLE);
        x = shortOfBreath(20, 9, "q'");
        due("17: no road", x.bestPause(), Checks.NOT_POSSIBLE);
        x.pave(4, 0, false);
        x.set(1, 7);
        due("17: of several the least", x.bestPause(), 0);
        x.pave(5, 0, false);
        due("17: a pause instead of a gasp", x.bestPause(), 1);
        x.march(6);
        String before = Checks.picture(x);
        due("17: it is told from the beginning", x.bestPause(), 1);
        Checks.same("17: nothing changes", Checks.picture(x), before);
        x.set(3, 1);
        x.set(2, 1);
        due("17: gasps that cost little", x.bestPause(), 0);
        x = shortOfBreath(1, 9, "q'");
        x.pave(40, 0, false);
        x.set(4, 40);
        due("17: breath enough", x.bestPause(), 0);
        x.set(4, 12);
        due("17: 0 to 9 by counting", x.bestPause(), bestByTrying(x));
        x = shortOfBreath(1, 9, "uq'");
        x.set(4, 19);
        x.pave(9, 2, false);
        due("17: 8 beats of a pause instead of 9 of a gasp", x.bestPause(), 8);
        due("17: 8 by counting", bestByTrying(x), 8);
        x.set(3, 2);
        due("17: 4 beats that bring back twice as much", x.bestPause(), 4);
        x = shortOfBreath(1, 9, "u'");
        x.pave(4, 3, false);
        due("17: a gasp is shortened by no pause", x.bestPause(), bestByTrying(x));
        bestPauseOfLongWays();
    }

    private static int bestByTrying(MarchMetres x) {
        int best = -1;
        int fewest = MAX;
        for (int pause = 0; pause <= 9; pause++) {
            x.set(1, pause);
            int beats = x.untilWalked(0);
            if (beats >= 0 && beats < fewest) {
                best = pause;
                fewest = beats;
            }
        }
        return best;
    }

    private static void bestPauseOfLongWays() {
        MarchMetres x = shortOfBreath(1, 9, "u");
        x.pave(11, 0, false);
        steep(x, 498);
        due("17: 5000 beats", x.untilWalked(0), 5000);
        due("17: in 5000 beats", x.bestPause(), 0);
        x = shortOfBreath(1, 9, "u");
        x.pave(13, 0, false);
        steep(x, 497);
        due("17: more than 5000 beats", x.untilWalked(0), Checks.NONE);
        due("17: in 5001 beats", x.bestPause(), Checks.NONE);
        x.march(1);
        due("17: in 5001 beats, from the beginning", x.bestPause(), Checks.NONE);
        due("17: 5000 from now on", x.untilWalked(0), 5000);
    }

    private static void steep(MarchMetres x, int steps) {
        for (int left = steps; left > 0; left -= 99) {
            x.pave(Math.min(left, 99), 3, false);
        }
    }

    private static void promise18() {
        MarchMetres x = new MarchMetres();
        due("18: no character", x.put(0), Checks.BAD_VALUE);
        due("18: code 32", x.put(32), Checks.BAD_VALUE);
        due("18: code 127", x.put(127), Checks.BAD_VALUE);
        due("18: code 1", x.put(1), Checks.BAD_VALUE);
        due("18: code 128", x.put(128), Checks.BAD_VALUE);
        due("18: code 255", x.put(255), Checks.BAD_VALUE);
        due("18: an empty lowest place", x.put('u' << 8), Checks.BAD_VALUE);
        due("18: an empty place in the midst", x.put('u' << 16 | 'u'), Checks.BAD_VALUE);
        due("18: a bit far above", x.put(1L << 62 | 'u'), Checks.BAD_VALUE);
        due("18: the highest bit", x.put(Long.MIN_VALUE | 'u'), Checks.BAD_VALUE);
        due("18: all bits", x.put(-1L), Checks.BAD_VALUE);
        due("18: MIN", x.put(Long.MIN_VALUE), Checks.BAD_VALUE);
        due("18: MAX", x.put(Long.MAX_VALUE), Checks.BAD_VALUE);
        due("18: a wrong code in the midst", x.put(Checks.asNumber("u u")), Checks.BAD_VALUE);
        due("18: a wrong code in the first of eight", x.put(Checks.asNumber(" uuuuuuu")), Checks.BAD_VALUE);
        due("18: a code above 126 in the first of eight", x.put(0x8075757575757575L), Checks.BAD_VALUE);
        due("18: errors put nothing", x.count(11), 0);
        due("18: code 33", x.put(33), 1);
        due("18: code 126", x.put(126), 2);
        due("18: eight of code 126", x.put(0x7e7e7e7e7e7e7e7eL), 10);
        due("18: wipe", x.wipe(), 10);
        due("18: it is no change", x.count(12), 0);
        Checks.write(x, "ud'q/qq'");
        x.put('d');
        due("18: read", x.read(), 2);
        due("18: the order", x.foot(0, 0, 0) * 100 + x.foot(0, 1, 0) * 10 + x.foot(0, 2, 0), 234);
        due("18: the order behind it", x.foot(1, 0, 0) * 100 + x.foot(1, 1, 0) * 10 + x.foot(1, 2, 0), 443);
        due("18: the marks", x.foot(0, 1, 1) * 10 + x.foot(1, 1, 1), 11);
        for (int n = 1; n <= 7; n++) {
            due("18: eight more", x.put(Checks.asNumber("u'd'q'/u")), 8 * n);
        }
        due("18: 64 are too many", x.put(Checks.asNumber("uuuuuuuu")), Checks.TOO_MANY);
        due("18: 61 are too many", x.put(Checks.asNumber("uuuuu")), Checks.TOO_MANY);
        due("18: too many put nothing", x.count(11), 56);
        due("18: 60", x.put(Checks.asNumber("uuuu")), 60);
        due("18: one more", x.put('u'), Checks.TOO_MANY);
        due("18: BAD_VALUE goes first", x.put(32), Checks.BAD_VALUE);
    }

    private static void promise19() {
        MarchMetres x = underWay();
        String before = Checks.picture(x);
        due("19: an empty pad", x.wipe(), 0);
        Checks.write(x, "ud'q/qq'xyz");
        due("19: wipe", x.wipe(), 11);
        due("19: it is empty", x.count(11), 0);
        due("19: again", x.wipe(), 0);
        due("19: its fault", x.fault(), 0);
        due("19: it is no change", x.count(12), 4);
        Checks.same("19: all else stays", Checks.picture(x), before);
        due("19: put begins anew", x.put('q'), 1);
        due("19: and nothing is left of the old text", x.fault(), Checks.NONE);
    }

    private static void promise20() {
        faultIs("", 0);
        faultIs("u", Checks.NONE);
        faultIs("d", Checks.NONE);
        faultIs("q", Checks.NONE);
        faultIs("q'", Checks.NONE);
        faultIs("'", 0);
        faultIs("/", 0);
        faultIs("u''", 2);
        faultIs("u/'", 2);
        faultIs("u//u", 2);
        faultIs("u/", 2);
        faultIs("u'/", 3);
        faultIs("u/d'", Checks.NONE);
        faultIs("ux", 1);
        faultIs("u'x", 2);
        faultIs("U", 0);
        faultIs("uD", 1);
        faultIs("uQ/", 1);
        faultIs("ud'q/&", 5);
        faultIs("dddddddddddd", Checks.NONE);
        faultIs("ddddddddddddd", 12);
        faultIs("dddddddddddd'", Checks.NONE);
        faultIs("dddddddddddd'u", 13);
        faultIs("dddddddddddd/", 13);
        faultIs("dddddddddddd/uuuuuuuuuuuu", Checks.NONE);
        faultIs("dddddddddddd/uuuuuuuuuuuuu", 25);
        faultIs("u/u/u/u/u/u/u/u/u/u", Checks.NONE);
        faultIs("u/u/u/u/u/u/u/u/u/u'", Checks.NONE);
        faultIs("u/u/u/u/u/u/u/u/u/", 18);
        faultIs("u/u/u/u/u/u/u/u/u/u/", 19);
        faultIs("u/u/u/u/u/u/u/u/u/u/u", 19);
        faultIs("u'u'u'u'u'u'u'u'u'u'u'u'/u'u'u'u'u'u'u'u'u'u'u'u'/u'u'u'u'u'", Checks.NONE);
        faultIs("u'u'u'u'u'u'u'u'u'u'u'u'/u'u'u'u'u'u'u'u'u'u'u'u'/u'u'u'u'u/", 60);
        faultIs("!~", 0);
    }

    private static void faultIs(String text, int want) {
        MarchMetres x = new MarchMetres();
        Checks.write(x, text);
        due("20: fault of " + text, x.fault(), want);
        due("20: the pad stays", x.count(11), text.length());
        due("20: read of " + text, x.read(), want == Checks.NONE ? text.split("/").length : Checks.BAD_TEXT);
    }

    private static void promise21() {
        MarchMetres x = new MarchMetres();
        due("21: nothing to undo", x.undo(), Checks.NOT_POSSIBLE);
        Checks.write(x, "u'q");
        String[] before = new String[6];
        before[0] = Checks.picture(x);
        x.read();
        before[1] = Checks.picture(x);
        x.pave(20, 1, true);
        before[2] = Checks.picture(x);
        x.march(8);
        before[3] = Checks.picture(x);
        x.begin();
        before[4] = Checks.picture(x);
        x.set(4, 9);
        before[5] = Checks.picture(x);
        x.tear(0);
        x.put('q');
        for (int left = 5; left >= 0; left--) {
            due("21: undo", x.undo(), left);
            Checks.same("21: as it was with " + left, Checks.picture(x), before[left]);
            due("21: the count", x.count(12), left);
        }
        due("21: no more", x.undo(), Checks.NOT_POSSIBLE);
        due("21: the pad stays, as read left it", x.count(11), 1);
        x = new MarchMetres();
        for (int value = 1; value <= 9; value++) {
            x.set(0, value);
        }
        for (int left = 5; left >= 0; left--) {
            due("21: undo one of nine", x.undo(), left);
            due("21: the value then", x.count(0), left + 3);
        }
        due("21: the oldest ones were dropped", x.undo(), Checks.NOT_POSSIBLE);
        due("21: the value stays", x.count(0), 3);
        x.set(0, 8);
        x.undo();
        x.set(0, 5);
        due("21: a change behind an undo", x.undo(), 0);
        due("21: is undone", x.count(0), 3);
        undoGoesOn();
    }

    /** A march has to go on after an undo as it would have gone on before. */
    private static void undoGoesOn() {
        MarchMetres x = sings("u'd");
        x.set(5, 3);
        x.pave(9, 1, true);
        x.march(4);
        int beats = x.untilWalked(0);
        x.march(1);
        x.undo();
        due("21: the mud goes on", x.untilWalked(0), beats);
        x.march(500);
        due("21: to the same end", x.walk(0), beats + 4);
        x.save(0);
        x.undo();
        due("21: the slot stays", x.restore(0), beats + 4);
        Checks.sing(x, "qq'");
        x.undo();
        due("21: the marks are back", x.foot(0, 0, 1) * 10 + x.foot(0, 1, 1), 10);
    }

    private static void promise22() {
        MarchMetres x = underWay();
        due("22: no slot -1", x.save(-1), Checks.BAD_VALUE);
        due("22: no slot 2", x.save(2), Checks.BAD_VALUE);
        due("22: no slot MIN", x.save(MIN), Checks.BAD_VALUE);
        due("22: no slot MAX", x.save(MAX), Checks.BAD_VALUE);
        String before = Checks.picture(x);
        due("22: save", x.save(0), 34);
        Checks.same("22: nothing else changes", Checks.picture(x), before);
        due("22: it is no change", x.count(12), 4);
        due("22: the other slot", x.restore(1), Checks.NOT_POSSIBLE);
        x.march(2);
        due("22: save in the other", x.save(1), 36);
        x.begin();
        due("22: restore", x.restore(0), 34);
        due("22: restore the other", x.restore(1), 36);
        x.begin();
        due("22: overwrite", x.save(1), 0);
        x.march(1);
        due("22: what was saved last", x.restore(1), 0);
        due("22: the other slot keeps its own", x.restore(0), 34);
    }

    private static void promise23() {
        MarchMetres x = underWay();
        due("23: no slot -1", x.restore(-1), Checks.BAD_VALUE);
        due("23: no slot 2", x.restore(2), Checks.BAD_VALUE);
        due("23: no slot MIN", x.restore(MIN), Checks.BAD_VALUE);
        due("23: no slot MAX", x.restore(MAX), Checks.BAD_VALUE);
        due("23: nothing was saved", x.restore(0), Checks.NOT_POSSIBLE);
        due("23: errors record nothing", x.count(12), 4);
        String saved = Checks.picture(x);
        int beats = x.untilWalked(0);
        x.save(0);
        Checks.sing(x, "q/q");
        x.set(1, 6);
        x.tear(0);
        x.pave(5, 0, false);
        x.march(4);
        String before = Checks.picture(x);
        Checks.write(x, "dd");
        due("23: restore tells the beats of the march that is back", x.restore(0), 34);
        Checks.same("23: as it was saved", Checks.picture(x), saved);
        due("23: it goes on as before", x.untilWalked(0), beats);
        due("23: the pad stays", x.count(11), 2);
        due("23: the history goes on", x.count(12), 6);
        x.march(500);
        due("23: the slot keeps it", x.restore(0), 34);
        Checks.same("23: as it was saved, again", Checks.picture(x), saved);
        x.undo();
        x.undo();
        due("23: it can be undone", x.undo(), 3);
        Checks.same("23: as it was before", Checks.picture(x), before);
        x = new MarchMetres();
        x.save(1);
        due("23: restore what is the same", x.restore(1), 0);
        due("23: is a change all the same", x.count(12), 1);
    }

    public static void main(String[] args) {
        promise1();
        promise2();
        promise3();
        promise4();
        promise5();
        promise6();
        promise7();
        marching();
        promise8();
        promise9();
        promise10();
        promise11();
        promise12();
        promise13();
        promise14();
        promise15();
        promise16();
        promise17();
        promise18();
        promise19();
        promise20();
        promise21();
        promise22();
        promise23();
        Checks.end("PromisesTest");
    }
}
