import java.util.ArrayDeque;
import java.util.ArrayList;
import java.util.Collections;
import java.util.Deque;
import java.util.List;
import java.util.regex.Pattern;

/**
 * The document told once more, in another way: a state is the settings, the song's text, the road and
 * the number of beats alone, and every answer is worked out anew from the beginning of the march.
 */
final class Reference {
    private static final int NO_SUCH = -1, BAD_VALUE = -2, BAD_TEXT = -3, TOO_MANY = -4, NOT_POSSIBLE = -5, NONE = -6;
    private static final int FAR = 5000;
    private static final int[][] RANGES = {{1, 9}, {0, 9}, {1, 9}, {1, 20}, {5, 60}, {2, 9}};
    private static final String FOOT = "[udq]'?";
    private static final Pattern WHOLE = Pattern.compile(line("1") + "(/" + line("1") + "){0,9}");
    private static final Pattern BEGUN = Pattern.compile("(" + line("1") + "/){0,9}" + line("0"));

    private record Stretch(int steps, int slope, boolean mud) {
    }

    private record State(List<Integer> settings, String song, List<Stretch> road, int beats) {
        State begun() {
            return new State(settings, song, road, 0);
        }
    }

    /** The numbers of walk, and whether the song and a stretch ended in the latest beat. */
    private record Walk(int[] numbers, boolean together) {
        boolean isOver() {
            return numbers[14] == 1;
        }
    }

    private State state = new State(List.of(4, 1, 3, 4, 30, 4), "", List.of(), 0);
    private String pad = "";
    private final Deque<State> history = new ArrayDeque<>();
    private final State[] slots = new State[2];

    private static String line(String least) {
        return "(" + FOOT + "){" + least + ",12}";
    }

    private void change(State next) {
        history.addLast(state);
        if (history.size() > 6) {
            history.removeFirst();
        }
        state = next;
    }

    private static boolean isWithin(int number, int least, int most) {
        return least <= number && number <= most;
    }

    // ---- the song as text

    private List<String> lines() {
        return state.song.isEmpty() ? List.of() : List.of(state.song.split("/"));
    }

    private static List<String> feet(String line) {
        List<String> feet = new ArrayList<>();
        for (int i = 0; i < line.length(); i++) {
            if (line.charAt(i) != '\'') {
                feet.add(i + 1 < line.length() && line.charAt(i + 1) == '\'' ? line.substring(i, i + 2) : line.substring(i, i + 1));
            }
        }
        return feet;
    }

    private static int beats(String text) {
        int sum = 0;
        for (char c : text.toCharArray()) {
            sum += 1 + "/udq".indexOf(c) - (c == '/' ? 1 : 0);
        }
        return sum;
    }

    private static int marks(String text) {
        return text.length() - text.replace("'", "").length();
    }

    // ---- the march from its beginning

    private int need(int stretch) {
        return 1 + Math.max(0, state.road.get(stretch).slope);
    }

    /** For each beat that is sung, as long as there is a road: its stretch, and whether it brings a step. */
    private List<int[]> roadBeats(int mud) {
        List<int[]> all = new ArrayList<>();
        for (int n = 0; n < state.road.size(); n++) {
            Stretch stretch = state.road.get(n);
            int made = 0;
            for (int sung = 1; made < stretch.steps; sung++) {
                boolean isStep = !(stretch.mud && sung % mud == 0);
                made += isStep ? 1 : 0;
                all.add(new int[] {n, isStep ? 1 : 0, made == stretch.steps ? 1 : 0});
            }
        }
        return all;
    }

    /** For each beat of the song: its line, its foot, its place in the foot, whether a mark is behind it. */
    private List<int[]> songBeats() {
        List<int[]> all = new ArrayList<>();
        for (int line = 0; line < lines().size(); line++) {
            List<String> feet = feet(lines().get(line));
            for (int foot = 0; foot < feet.size(); foot++) {
                int size = beats(feet.get(foot));
                for (int beat = 0; beat < size; beat++) {
                    all.add(new int[] {line, foot, beat, beat == size - 1 ? marks(feet.get(foot)) : 0});
                }
            }
        }
        return all;
    }

    private Walk walkTo(int beats, List<Integer> settings) {
        return walkTo(beats, settings, false, 0);
    }

    /** Walks until the beats are over, the road is walked, or, when asked to, they end together behind a beat. */
    private Walk walkTo(int beats, List<Integer> settings, boolean stopsTogether, int behind) {
        List<int[]> road = roadBeats(settings.get(5));
        List<int[]> song = songBeats();
        int breath = settings.get(4);
        int pause = 0, sung = 0, gone = 0, climbed = 0, gasps = 0, steps = 0;
        boolean together = false;
        while (gone < beats && sung < road.size() && !(stopsTogether && together && gone > behind)) {
            together = false;
            gone++;
            int need = need(road.get(sung)[0]);
            boolean isGasp = pause == 0 && breath < need;
            if (isGasp) {
                gasps++;
            }
            if (isGasp || pause > 0) {
                pause = (isGasp ? settings.get(2) : pause) - 1;
                breath = Math.min(breath + settings.get(3), settings.get(4));
            } else {
                breath -= need;
                climbed += need - 1;
                steps += road.get(sung)[1];
                pause = song.get(sung % song.size())[3] * settings.get(1);
                boolean endsStretch = road.get(sung)[2] == 1;
                sung++;
                together = endsStretch && sung % song.size() == 0;
            }
        }
        int[] n = new int[15];
        n[0] = gone;
        n[1] = gone * settings.get(0) + climbed;
        for (int i = 0; i < 3 && !song.isEmpty(); i++) {
            n[2 + i] = song.get(sung % song.size())[i];
        }
        n[5] = sung < road.size() ? road.get(sung)[0] : state.road.size();
        int before = 0;
        for (int i = 0; i < n[5]; i++) {
            before += state.road.get(i).steps;
        }
        n[6] = steps - before;
        n[7] = breath;
        n[8] = pause;
        n[9] = steps;
        n[10] = sung - steps;
        n[11] = gasps;
        n[12] = song.isEmpty() ? 0 : sung / song.size();
        n[13] = sung;
        n[14] = !road.isEmpty() && sung == road.size() ? 1 : 0;
        return new Walk(n, together);
    }

    private boolean isReady() {
        return !state.song.isEmpty() && !state.road.isEmpty();
    }

    private static List<Integer> with(List<Integer> settings, int setting, int value) {
        List<Integer> others = new ArrayList<>(settings);
        others.set(setting, value);
        return Collections.unmodifiableList(others);
    }

    // ---- the calls

    int set(int setting, int value) {
        if (!isWithin(setting, 0, 5) || !isWithin(value, RANGES[setting][0], RANGES[setting][1])) {
            return BAD_VALUE;
        }
        int previous = state.settings.get(setting);
        change(new State(with(state.settings, setting, value), state.song, state.road, 0));
        return previous;
    }

    int read() {
        if (fault() != NONE) {
            return BAD_TEXT;
        }
        change(new State(state.settings, pad, state.road, 0));
        pad = "";
        return lines().size();
    }

    int pave(int steps, int slope, boolean hasMud) {
        if (!isWithin(steps, 1, 99) || !isWithin(slope, -3, 3)) {
            return BAD_VALUE;
        }
        if (state.road.size() == 12) {
            return TOO_MANY;
        }
        List<Stretch> road = new ArrayList<>(state.road);
        road.add(new Stretch(steps, slope, hasMud));
        change(new State(state.settings, state.song, List.copyOf(road), 0));
        return road.size() - 1;
    }

    int tear(int stretch) {
        if (!isWithin(stretch, 0, state.road.size() - 1)) {
            return NO_SUCH;
        }
        List<Stretch> road = new ArrayList<>(state.road);
        int steps = road.remove(stretch).steps;
        change(new State(state.settings, state.song, List.copyOf(road), 0));
        return steps;
    }

    int begin() {
        int beats = state.beats;
        change(state.begun());
        return beats;
    }

    int march(int beats) {
        if (!isWithin(beats, 1, 500)) {
            return BAD_VALUE;
        }
        if (!isReady() || walk(14) == 1) {
            return NOT_POSSIBLE;
        }
        int before = state.beats;
        int then = walkTo(before + beats, state.settings).numbers[0];
        change(new State(state.settings, state.song, state.road, then));
        return then - before;
    }

    int line(int line, int what) {
        if (!isWithin(line, 0, lines().size() - 1)) {
            return NO_SUCH;
        }
        String text = lines().get(line);
        int[] told = {feet(text).size(), beats(text), marks(text), beats(text) + marks(text) * state.settings.get(1)};
        return isWithin(what, 0, 3) ? told[what] : BAD_VALUE;
    }

    int foot(int line, int foot, int what) {
        if (!isWithin(line, 0, lines().size() - 1) || !isWithin(foot, 0, feet(lines().get(line)).size() - 1)) {
            return NO_SUCH;
        }
        String text = feet(lines().get(line)).get(foot);
        return what == 0 ? beats(text) : what == 1 ? marks(text) : BAD_VALUE;
    }

    int stretch(int stretch, int what) {
        if (!isWithin(stretch, 0, state.road.size() - 1)) {
            return NO_SUCH;
        }
        Stretch told = state.road.get(stretch);
        int toSing = 0;
        for (int[] beat : roadBeats(state.settings.get(5))) {
            toSing += beat[0] == stretch ? 1 : 0;
        }
        int[] numbers = {told.steps, told.slope + 3, told.mud ? 1 : 0, toSing};
        return isWithin(what, 0, 3) ? numbers[what] : BAD_VALUE;
    }

    int walk(int what) {
        return isWithin(what, 0, 14) ? walkTo(state.beats, state.settings).numbers[what] : BAD_VALUE;
    }

    int count(int what) {
        if (isWithin(what, 0, 5)) {
            return state.settings.get(what);
        }
        int steps = 0;
        for (Stretch stretch : state.road) {
            steps += stretch.steps;
        }
        int[] numbers = {lines().size(), beats(state.song), marks(state.song), state.road.size(), steps, pad.length(), history.size()};
        return isWithin(what, 6, 12) ? numbers[what - 6] : BAD_VALUE;
    }

    int untilWalked(int what) {
        if (!isWithin(what, 0, 3)) {
            return BAD_VALUE;
        }
        if (!isReady()) {
            return NOT_POSSIBLE;
        }
        Walk then = walkTo(state.beats + FAR, state.settings);
        int number = new int[] {0, 1, 11, 12}[what];
        return then.isOver() ? then.numbers[number] - walk(number) : NONE;
    }

    int together() {
        if (!isReady()) {
            return NOT_POSSIBLE;
        }
        Walk then = walkTo(state.beats + FAR, state.settings, true, state.beats);
        return then.together && then.numbers[0] > state.beats ? then.numbers[0] - state.beats : NONE;
    }

    int meets(int stretch, int way) {
        if (!isWithin(stretch, 0, state.road.size() - 1)) {
            return NO_SUCH;
        }
        if (!isWithin(way, 0, 1)) {
            return BAD_VALUE;
        }
        if (state.song.isEmpty()) {
            return NOT_POSSIBLE;
        }
        int songs = 0;
        int onStretch = 0;
        do {
            songs++;
            onStretch = (onStretch + beats(state.song)) % state.road.get(stretch).steps;
        } while (onStretch != 0);
        return songs;
    }

    int leastBreath() {
        if (!isReady()) {
            return NOT_POSSIBLE;
        }
        for (int breath = 5; breath <= 60; breath++) {
            Walk walk = walkTo(FAR, with(state.settings, 4, breath));
            if (walk.isOver() && walk.numbers[11] == 0) {
                return breath;
            }
        }
        return NONE;
    }

    int bestPause() {
        if (!isReady()) {
            return NOT_POSSIBLE;
        }
        int best = NONE;
        int fewest = Integer.MAX_VALUE;
        for (int pause = 9; pause >= 0; pause--) {
            Walk walk = walkTo(FAR, with(state.settings, 1, pause));
            if (walk.isOver() && walk.numbers[0] <= fewest) {
                best = pause;
                fewest = walk.numbers[0];
            }
        }
        return best;
    }

    int put(long characters) {
        StringBuilder text = new StringBuilder();
        for (int shift = 56; shift >= 0; shift -= 8) {
            int code = (int) (characters >>> shift & 255);
            if (code == 0 && text.length() == 0) {
                continue;
            }
            if (!isWithin(code, 33, 126)) {
                return BAD_VALUE;
            }
            text.append((char) code);
        }
        if (text.length() == 0) {
            return BAD_VALUE;
        }
        if (text.length() + pad.length() > 60) {
            return TOO_MANY;
        }
        pad += text;
        return pad.length();
    }

    int wipe() {
        int length = pad.length();
        pad = "";
        return length;
    }

    int fault() {
        for (int i = 0; i < pad.length(); i++) {
            if (!BEGUN.matcher(pad.substring(0, i + 1)).matches()) {
                return i;
            }
        }
        return WHOLE.matcher(pad).matches() ? NONE : pad.length();
    }

    int undo() {
        if (history.isEmpty()) {
            return NOT_POSSIBLE;
        }
        state = history.removeLast();
        return history.size();
    }

    int save(int slot) {
        if (!isWithin(slot, 0, 1)) {
            return BAD_VALUE;
        }
        slots[slot] = state;
        return state.beats;
    }

    int restore(int slot) {
        if (!isWithin(slot, 0, 1)) {
            return BAD_VALUE;
        }
        if (slots[slot] == null) {
            return NOT_POSSIBLE;
        }
        change(slots[slot]);
        return state.beats;
    }
}
