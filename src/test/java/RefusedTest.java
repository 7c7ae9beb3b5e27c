import java.util.ArrayList;
import java.util.List;
import java.util.function.Supplier;
import java.util.function.ToIntFunction;

/**
 * Calls behind which nothing is different: those that are refused, and those that only ask. Each is
 * made of one of two objects that were made alike; then all that the two can tell is compared.
 */
public final class RefusedTest {
    private static final int MIN = Integer.MIN_VALUE;
    private static final int MAX = Integer.MAX_VALUE;
    private static final int[] LEAST = {1, 0, 1, 1, 5, 2};
    private static final int[] MOST = {9, 9, 9, 20, 60, 9};
    private static final int NO_ERROR = 1;

    private record Call(String name, int want, ToIntFunction<MarchMetres> answer) {
    }

    private record Situation(String name, Supplier<MarchMetres> make, List<Call> calls) {
    }

    private RefusedTest() {
    }

    // ---- the situations

    private static MarchMetres paved(MarchMetres x) {
        x.pave(7, 2, true);
        x.pave(4, -1, false);
        return x;
    }

    /** In a gasp on mud, with a pad, both slots and a full history. */
    private static MarchMetres underWay() {
        MarchMetres x = paved(Checks.withSong("ud'/q"));
        x.set(Checks.BREATH, 7);
        x.march(2);
        x.save(0);
        x.march(5);
        x.save(1);
        x.set(Checks.TEMPO, 7);
        x.march(8);
        Checks.write(x, "u'q/d");
        return x;
    }

    private static MarchMetres walked() {
        MarchMetres x = paved(Checks.withSong("u'd"));
        x.march(500);
        x.save(1);
        x.put('d');
        return x;
    }

    /** Twelve stretches, and 60 characters that are a song; the history is short, for so much to be told by 512 calls. */
    private static MarchMetres full() {
        MarchMetres x = new MarchMetres();
        for (int n = 0; n < 12; n++) {
            x.pave(99 - n, n % 7 - 3, n % 2 == 1);
        }
        Checks.sing(x, "q");
        x.march(33);
        x.save(1);
        for (int n = 0; n < 6; n++) {
            x.undo();
        }
        x.restore(1);
        Checks.write(x, "qqqqqqqqqqqq/uuuuuuuuuuuu/dddddddddddd/d'd'd'd'd'd'd'd'd'd'q");
        return x;
    }

    private static MarchMetres faulty(String text) {
        MarchMetres x = underWay();
        x.wipe();
        Checks.write(x, text);
        return x;
    }

    /** A road that no walk of 5000 beats ends. */
    private static MarchMetres tooFar() {
        MarchMetres x = Checks.withSong("qqq");
        Checks.breathless(x);
        for (int n = 0; n < 6; n++) {
            x.pave(99, 3, false);
        }
        x.march(11);
        return x;
    }

    // ---- the calls

    private static void add(List<Call> calls, String name, int want, ToIntFunction<MarchMetres> answer) {
        calls.add(new Call(name, want, answer));
    }

    /** Refused always. */
    private static List<Call> wrongValues() {
        List<Call> calls = new ArrayList<>();
        for (int n = 0; n < 6; n++) {
            int setting = n;
            add(calls, "set below " + n, Checks.BAD_VALUE, x -> x.set(setting, LEAST[setting] - 1));
            add(calls, "set above " + n, Checks.BAD_VALUE, x -> x.set(setting, MOST[setting] + 1));
        }
        add(calls, "set -1", Checks.BAD_VALUE, x -> x.set(-1, 5));
        add(calls, "set 6", Checks.BAD_VALUE, x -> x.set(6, 5));
        int[][] stretches = {{0, 0}, {100, 0}, {9, -4}, {9, 4}, {MIN, MAX}};
        for (int[] s : stretches) {
            add(calls, "pave " + s[0] + " " + s[1], Checks.BAD_VALUE, x -> x.pave(s[0], s[1], true));
        }
        int[] beats = {MIN, -1, 0, 501, MAX};
        for (int b : beats) {
            add(calls, "march " + b, Checks.BAD_VALUE, x -> x.march(b));
        }
        int[] noWhat = {MIN, -1, 15, MAX};
        for (int what : noWhat) {
            add(calls, "walk " + what, Checks.BAD_VALUE, x -> x.walk(what));
            add(calls, "count " + what, Checks.BAD_VALUE, x -> x.count(what));
            add(calls, "untilWalked " + what, Checks.BAD_VALUE, x -> x.untilWalked(what));
        }
        int[] noSlot = {MIN, -1, 2, MAX};
        for (int slot : noSlot) {
            add(calls, "save " + slot, Checks.BAD_VALUE, x -> x.save(slot));
            add(calls, "restore " + slot, Checks.BAD_VALUE, x -> x.restore(slot));
        }
        long[] noText = {0, 32, 127, Checks.asNumber("u u"), Checks.asNumber("ud'") << 8, 1L << 63 | 'u', -1};
        for (long text : noText) {
            add(calls, "put " + text, Checks.BAD_VALUE, x -> x.put(text));
        }
        wrongNumbers(calls);
        return calls;
    }

    private static void wrongNumbers(List<Call> calls) {
        int[] none = {MIN, -1, 12, MAX};
        for (int n : none) {
            add(calls, "tear " + n, Checks.NO_SUCH, x -> x.tear(n));
            add(calls, "line " + n, Checks.NO_SUCH, x -> x.line(n, 0));
            add(calls, "foot of line " + n, Checks.NO_SUCH, x -> x.foot(n, 0, 0));
            add(calls, "foot " + n, Checks.NO_SUCH, x -> x.foot(0, n, 0));
            add(calls, "stretch " + n, Checks.NO_SUCH, x -> x.stretch(n, 0));
            add(calls, "meets " + n, Checks.NO_SUCH, x -> x.meets(n, 1));
        }
    }

    /** What only asks, whatever it answers: it is not refused where there is a song and a road. */
    private static List<Call> questions() {
        List<Call> calls = new ArrayList<>();
        for (int n = 0; n <= 3; n++) {
            int what = n;
            add(calls, "line " + n, NO_ERROR, x -> x.line(0, what));
            add(calls, "stretch " + n, NO_ERROR, x -> x.stretch(0, what));
            add(calls, "untilWalked " + n, NO_ERROR, x -> x.untilWalked(what));
        }
        for (int n = 0; n <= 14; n++) {
            int what = n;
            add(calls, "walk " + n, NO_ERROR, x -> x.walk(what));
        }
        for (int n = 0; n <= 12; n++) {
            int what = n;
            add(calls, "count " + n, NO_ERROR, x -> x.count(what));
        }
        add(calls, "foot 0", NO_ERROR, x -> x.foot(0, 0, 0));
        add(calls, "foot 1", NO_ERROR, x -> x.foot(0, 0, 1));
        add(calls, "meets by counting", NO_ERROR, x -> x.meets(0, 0));
        add(calls, "meets at once", NO_ERROR, x -> x.meets(0, 1));
        add(calls, "together", NO_ERROR, MarchMetres::together);
        add(calls, "leastBreath", NO_ERROR, MarchMetres::leastBreath);
        add(calls, "bestPause", NO_ERROR, MarchMetres::bestPause);
        add(calls, "fault", NO_ERROR, MarchMetres::fault);
        return calls;
    }

    private static List<Call> notPossible() {
        List<Call> calls = new ArrayList<>();
        add(calls, "march 1", Checks.NOT_POSSIBLE, x -> x.march(1));
        add(calls, "march 500", Checks.NOT_POSSIBLE, x -> x.march(500));
        for (int n = 0; n <= 3; n++) {
            int what = n;
            add(calls, "untilWalked " + n, Checks.NOT_POSSIBLE, x -> x.untilWalked(what));
        }
        add(calls, "together", Checks.NOT_POSSIBLE, MarchMetres::together);
        add(calls, "leastBreath", Checks.NOT_POSSIBLE, MarchMetres::leastBreath);
        add(calls, "bestPause", Checks.NOT_POSSIBLE, MarchMetres::bestPause);
        return calls;
    }

    private static List<Call> ofANewOne() {
        List<Call> calls = notPossible();
        add(calls, "read", Checks.BAD_TEXT, MarchMetres::read);
        add(calls, "undo", Checks.NOT_POSSIBLE, MarchMetres::undo);
        add(calls, "restore 0", Checks.NOT_POSSIBLE, x -> x.restore(0));
        add(calls, "restore 1", Checks.NOT_POSSIBLE, x -> x.restore(1));
        return calls;
    }

    private static List<Call> ofAFullOne() {
        List<Call> calls = new ArrayList<>();
        add(calls, "pave", Checks.TOO_MANY, x -> x.pave(1, 0, false));
        add(calls, "pave, as far as it goes", Checks.TOO_MANY, x -> x.pave(99, 3, true));
        add(calls, "put 1", Checks.TOO_MANY, x -> x.put('u'));
        add(calls, "put 8", Checks.TOO_MANY, x -> x.put(Checks.asNumber("u'd'q'~!")));
        add(calls, "restore", Checks.NOT_POSSIBLE, x -> x.restore(0));
        return calls;
    }

    private static List<Call> one(String name, int want, ToIntFunction<MarchMetres> answer) {
        List<Call> calls = new ArrayList<>();
        add(calls, name, want, answer);
        return calls;
    }

    private static List<Call> tooFarToTell() {
        List<Call> calls = new ArrayList<>();
        add(calls, "untilWalked", Checks.NONE, x -> x.untilWalked(0));
        add(calls, "leastBreath", Checks.NONE, MarchMetres::leastBreath);
        add(calls, "bestPause", Checks.NONE, MarchMetres::bestPause);
        return calls;
    }

    // ---- the comparison

    private static List<Situation> situations() {
        List<Situation> all = new ArrayList<>();
        all.add(new Situation("new", MarchMetres::new, wrongValues()));
        all.add(new Situation("under way", RefusedTest::underWay, wrongValues()));
        all.add(new Situation("walked", RefusedTest::walked, wrongValues()));
        all.add(new Situation("full", RefusedTest::full, wrongValues()));
        all.add(new Situation("under way", RefusedTest::underWay, questions()));
        all.add(new Situation("walked", RefusedTest::walked, questions()));
        all.add(new Situation("full", RefusedTest::full, questions()));
        all.add(new Situation("new", MarchMetres::new, ofANewOne()));
        all.add(new Situation("without a road", () -> Checks.withSong("ud'/q"), notPossible()));
        all.add(new Situation("without a song", () -> paved(new MarchMetres()), notPossible()));
        List<Call> silent = one("meets", Checks.NOT_POSSIBLE, x -> x.meets(1, 0));
        all.add(new Situation("without a song", () -> paved(new MarchMetres()), silent));
        all.add(new Situation("walked", RefusedTest::walked, one("march", Checks.NOT_POSSIBLE, x -> x.march(1))));
        all.add(new Situation("walked", RefusedTest::walked, one("restore", Checks.NOT_POSSIBLE, x -> x.restore(0))));
        all.add(new Situation("full", RefusedTest::full, ofAFullOne()));
        all.add(new Situation("too far", RefusedTest::tooFar, tooFarToTell()));
        String[] texts = {"", "'", "u/", "u//u", "uuuuuuuuuuuuu", "u/u/u/u/u/u/u/u/u/u/u", "ud'qx"};
        for (String text : texts) {
            Supplier<MarchMetres> make = () -> faulty(text);
            all.add(new Situation("with the pad " + text, make, one("read", Checks.BAD_TEXT, MarchMetres::read)));
            all.add(new Situation("with the pad " + text, make, one("fault", NO_ERROR, MarchMetres::fault)));
        }
        return all;
    }

    private static void changesNothing(Situation situation, Call call) {
        String what = situation.name + ": " + call.name;
        MarchMetres asked = situation.make.get();
        MarchMetres untouched = situation.make.get();
        int answer = call.answer.applyAsInt(asked);
        if (call.want == NO_ERROR) {
            Checks.due(what + " answered " + answer + ", an error", answer >= 0 || answer == Checks.NONE ? 1 : 0, 1);
        } else {
            Checks.due(what, answer, call.want);
        }
        Checks.same(what + ": what there is behind it", Checks.whole(asked), Checks.whole(untouched));
    }

    public static void main(String[] args) {
        Checks.sentence("Terms", "A call that returns an error changes nothing. (And neither does a call that asks.)");
        for (Situation situation : situations()) {
            for (Call call : situation.calls) {
                changesNothing(situation, call);
            }
        }
        Checks.end("RefusedTest");
    }
}
