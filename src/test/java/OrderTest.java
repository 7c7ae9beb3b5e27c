/**
 * "It names its errors in the order in which they are checked, and the first one that applies is
 * returned": each call for which two or three errors apply at once, and the next one as soon as
 * the first does not apply any more.
 */
public final class OrderTest {
    private OrderTest() {
    }

    private static void due(String what, long got, long want) {
        Checks.due(what, got, want);
    }

    private static void sentence(int promise, String words) {
        Checks.sentence("Promise " + promise, words);
    }

    private static MarchMetres withRoad() {
        MarchMetres x = new MarchMetres();
        x.pave(5, 0, false);
        return x;
    }

    private static void pave() {
        sentence(4, "BAD_VALUE if an argument is out of range; TOO_MANY if there are 12.");
        MarchMetres x = new MarchMetres();
        for (int n = 0; n < 12; n++) {
            due("pave " + n, x.pave(1, 0, false), n);
        }
        due("steps 0 and 12 stretches", x.pave(0, 0, false), Checks.BAD_VALUE);
        due("steps 100 and 12 stretches", x.pave(100, 0, false), Checks.BAD_VALUE);
        due("slope -4 and 12 stretches", x.pave(1, -4, false), Checks.BAD_VALUE);
        due("slope 4 and 12 stretches", x.pave(1, 4, false), Checks.BAD_VALUE);
        due("12 stretches", x.pave(1, 0, false), Checks.TOO_MANY);
    }

    private static void march() {
        sentence(7, "BAD_VALUE if beats is out of range; NOT_POSSIBLE if there is no song, no road, or the road is walked.");
        MarchMetres x = Checks.withSong("u");
        x.pave(1, 0, false);
        due("march to the end", x.march(1), 1);
        MarchMetres[] none = {new MarchMetres(), withRoad(), Checks.withSong("u"), x};
        for (MarchMetres y : none) {
            due("0 beats and not possible", y.march(0), Checks.BAD_VALUE);
            due("501 beats and not possible", y.march(501), Checks.BAD_VALUE);
            due("1 beat", y.march(1), Checks.NOT_POSSIBLE);
            due("500 beats", y.march(500), Checks.NOT_POSSIBLE);
        }
    }

    private static void whatThereIs() {
        sentence(8, "NO_SUCH if there is no such line; BAD_VALUE if what is out of range.");
        MarchMetres x = Checks.withSong("u/d");
        due("line 2, what 4", x.line(2, 4), Checks.NO_SUCH);
        due("line -1, what -1", x.line(-1, -1), Checks.NO_SUCH);
        due("line 1, what 4", x.line(1, 4), Checks.BAD_VALUE);
        due("without a song, what 4", new MarchMetres().line(0, 4), Checks.NO_SUCH);

        sentence(9, "NO_SUCH if there is no such line or foot; BAD_VALUE if what is out of range.");
        due("line 2, what 2", x.foot(2, 0, 2), Checks.NO_SUCH);
        due("foot 1, what 2", x.foot(1, 1, 2), Checks.NO_SUCH);
        due("foot -1, what -1", x.foot(0, -1, -1), Checks.NO_SUCH);
        due("foot 0, what 2", x.foot(1, 0, 2), Checks.BAD_VALUE);
        due("without a song, what 2", new MarchMetres().foot(0, 0, 2), Checks.NO_SUCH);

        sentence(10, "NO_SUCH if there is no such stretch; BAD_VALUE if what is out of range.");
        x = withRoad();
        due("stretch 1, what 4", x.stretch(1, 4), Checks.NO_SUCH);
        due("stretch -1, what -1", x.stretch(-1, -1), Checks.NO_SUCH);
        due("stretch 0, what 4", x.stretch(0, 4), Checks.BAD_VALUE);
        due("without a road, what 4", new MarchMetres().stretch(0, 4), Checks.NO_SUCH);
    }

    private static MarchMetres tooFar() {
        MarchMetres x = Checks.withSong("qqq");
        Checks.breathless(x);
        for (int n = 0; n < 6; n++) {
            x.pave(99, 3, false);
        }
        return x;
    }

    private static void ahead() {
        sentence(13, "BAD_VALUE if what is out of range; NOT_POSSIBLE if there is no song or no road; NONE if it is not"
            + " walked in 5000 beats.");
        MarchMetres x = tooFar();
        MarchMetres[] none = {new MarchMetres(), withRoad(), Checks.withSong("u")};
        for (MarchMetres y : none) {
            due("what 4 and not possible", y.untilWalked(4), Checks.BAD_VALUE);
            due("what -1 and not possible", y.untilWalked(-1), Checks.BAD_VALUE);
            due("what 3", y.untilWalked(3), Checks.NOT_POSSIBLE);
        }
        due("what 4 and too far", x.untilWalked(4), Checks.BAD_VALUE);
        due("what 3 and too far", x.untilWalked(3), Checks.NONE);

        sentence(14, "NOT_POSSIBLE if there is no song or no road; NONE if they do not");
        for (MarchMetres y : none) {
            due("together", y.together(), Checks.NOT_POSSIBLE);
        }

        sentence(16, "NOT_POSSIBLE if there is no song or no road; NONE if there is none");
        for (MarchMetres y : none) {
            due("leastBreath", y.leastBreath(), Checks.NOT_POSSIBLE);
        }
        due("leastBreath too far", x.leastBreath(), Checks.NONE);

        sentence(17, "NOT_POSSIBLE if there is no song or no road; NONE if it is not walked");
        for (MarchMetres y : none) {
            due("bestPause", y.bestPause(), Checks.NOT_POSSIBLE);
        }
        due("bestPause too far", x.bestPause(), Checks.NONE);
    }

    private static void meets() {
        sentence(15, "NO_SUCH if there is no such stretch; BAD_VALUE if way is neither 0 nor 1; NOT_POSSIBLE if there is"
            + " no song.");
        MarchMetres x = withRoad();
        due("no stretch, no way, no song", x.meets(1, 2), Checks.NO_SUCH);
        due("no stretch, no song", x.meets(1, 1), Checks.NO_SUCH);
        due("no way, no song", x.meets(0, 2), Checks.BAD_VALUE);
        due("no way below, no song", x.meets(0, -1), Checks.BAD_VALUE);
        due("no song", x.meets(0, 1), Checks.NOT_POSSIBLE);
        Checks.sing(x, "u");
        due("no stretch, no way", x.meets(-1, 2), Checks.NO_SUCH);
        due("no way", x.meets(0, 2), Checks.BAD_VALUE);
        due("none", x.meets(0, 1), 5);
    }

    private static void put() {
        sentence(18, "BAD_VALUE if there is no character, ...; TOO_MANY if the pad would be longer than 60.");
        MarchMetres x = new MarchMetres();
        Checks.write(x, "u'd'q'/u'd'q'/u'd'q'/u'd'q'/u'd'q'/u'd'q'/u'd'q'/u'd'q'/u'd'");
        due("no character on a full pad", x.put(0), Checks.BAD_VALUE);
        due("code 32 on a full pad", x.put(32), Checks.BAD_VALUE);
        due("code 127 on a full pad", x.put(127), Checks.BAD_VALUE);
        due("a bit above on a full pad", x.put(1L << 16 | 'u'), Checks.BAD_VALUE);
        due("code 33 on a full pad", x.put(33), Checks.TOO_MANY);
        due("code 126 on a full pad", x.put(126), Checks.TOO_MANY);
    }

    private static void restore() {
        sentence(23, "BAD_VALUE if there is no such slot; NOT_POSSIBLE if nothing was saved in it.");
        MarchMetres x = new MarchMetres();
        due("slot -1", x.restore(-1), Checks.BAD_VALUE);
        due("slot 2", x.restore(2), Checks.BAD_VALUE);
        due("slot 0", x.restore(0), Checks.NOT_POSSIBLE);
        due("slot 1", x.restore(1), Checks.NOT_POSSIBLE);
    }

    public static void main(String[] args) {
        pave();
        march();
        whatThereIs();
        ahead();
        meets();
        put();
        restore();
        Checks.end("OrderTest");
    }
}
