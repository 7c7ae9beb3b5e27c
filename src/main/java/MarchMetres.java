/**
 * Metre of marching songs: a song of lines and feet is sung along a road of stretches, beat by
 * beat, and what the beats do to steps, breath and pauses can be asked ahead, undone and saved.
 *
 * All rows are made in the constructor and used again: no later call makes an object.
 */
public final class MarchMetres {
    public static final int NO_SUCH = -1, BAD_VALUE = -2, BAD_TEXT = -3, TOO_MANY = -4, NOT_POSSIBLE = -5, NONE = -6;
    public static final int TEMPO = 0, PAUSE = 1, GASP = 2, REST = 3, BREATH = 4, MUD = 5;

    private static final int SETTINGS = 6;
    private static final int[] LEAST_VALUES = {1, 0, 1, 1, 5, 2};
    private static final int[] MOST_VALUES = {9, 9, 9, 20, 60, 9};
    private static final int[] FIRST_VALUES = {4, 1, 3, 4, 30, 4};

    private static final int MOST_LINES = 10;
    private static final int MOST_FEET = 12;
    private static final int FEET_ROW = MOST_LINES * MOST_FEET;
    private static final int MOST_STRETCHES = 12;
    private static final int MOST_STEPS = 99;
    private static final int STEEPEST = 3;
    private static final int MOST_CHARACTERS = 60;
    private static final int MOST_PUT = 8;
    private static final int MOST_MARCHED = 500;
    private static final int MOST_LOOKED_AHEAD = 5000;
    private static final int MOST_STATES = 6;
    private static final int SLOTS = 2;

    /** So much breath that no walk of MOST_LOOKED_AHEAD beats could use it up. */
    private static final int ENDLESS_BREATH = 1000000;
    /** Euclid's steps for numbers as small as ours stay far below this. */
    private static final int MOST_DIVISIONS = 1000;

    private final State now = new State();
    private final State[] slots = new State[SLOTS];
    private final boolean[] isSaved = new boolean[SLOTS];
    private final History history = new History();
    private final Pad pad = new Pad();
    private final March trial = new March();
    private final Settings trialSettings = new Settings();

    public MarchMetres() {
        for (int i = 0; i < SLOTS; i++) {
            slots[i] = new State();
        }
        now.startMarch();
    }

    // ---- changes

    public int set(int setting, int value) {
        if (!Settings.allows(setting, value)) {
            return BAD_VALUE;
        }
        history.record(now);
        int previous = now.settings.valueOf(setting);
        now.settings.change(setting, value);
        now.startMarch();
        return previous;
    }

    public int read() {
        if (pad.faultIndex() != NONE) {
            return BAD_TEXT;
        }
        history.record(now);
        pad.writeInto(now.song);
        pad.empty();
        now.startMarch();
        return now.song.lines;
    }

    public int pave(int steps, int slope, boolean hasMud) {
        if (steps < 1 || steps > MOST_STEPS || slope < -STEEPEST || slope > STEEPEST) {
            return BAD_VALUE;
        }
        if (now.road.stretches >= MOST_STRETCHES) {
            return TOO_MANY;
        }
        history.record(now);
        now.road.add(steps, slope, hasMud);
        now.startMarch();
        return now.road.stretches - 1;
    }

    public int tear(int stretch) {
        if (!now.road.has(stretch)) {
            return NO_SUCH;
        }
        history.record(now);
        int steps = now.road.stepsOf(stretch);
        now.road.remove(stretch);
        now.startMarch();
        return steps;
    }

    public int begin() {
        history.record(now);
        int beats = now.march.beats;
        now.startMarch();
        return beats;
    }

    public int march(int beats) {
        if (beats < 1 || beats > MOST_MARCHED) {
            return BAD_VALUE;
        }
        if (!isReady() || now.march.isAtEndOf(now.road)) {
            return NOT_POSSIBLE;
        }
        history.record(now);
        int before = now.march.beats;
        now.march.goUntilWalked(now.song, now.road, now.settings, beats);
        return now.march.beats - before;
    }

    // ---- what there is; nothing changes

    public int line(int line, int what) {
        if (!now.song.hasLine(line)) {
            return NO_SUCH;
        }
        int beats = now.song.beatsOfLine(line);
        int marks = now.song.marksOfLine(line);
        switch (what) {
            case 0: return now.song.feetOf(line);
            case 1: return beats;
            case 2: return marks;
            case 3: return beats + marks * now.settings.valueOf(PAUSE);
            default: return BAD_VALUE;
        }
    }

    public int foot(int line, int foot, int what) {
        if (!now.song.hasFoot(line, foot)) {
            return NO_SUCH;
        }
        switch (what) {
            case 0: return now.song.beatsOf(line, foot);
            case 1: return now.song.isMarked(line, foot) ? 1 : 0;
            default: return BAD_VALUE;
        }
    }

    public int stretch(int stretch, int what) {
        if (!now.road.has(stretch)) {
            return NO_SUCH;
        }
        switch (what) {
            case 0: return now.road.stepsOf(stretch);
            case 1: return now.road.slopeOf(stretch) + STEEPEST;
            case 2: return now.road.isMuddy(stretch) ? 1 : 0;
            case 3: return now.road.beatsToSing(stretch, now.settings.valueOf(MUD));
            default: return BAD_VALUE;
        }
    }

    public int walk(int what) {
        switch (what) {
            case 0: return now.march.beats;
            case 1: return now.march.ticks;
            case 2: return now.march.line;
            case 3: return now.march.foot;
            case 4: return now.march.beat;
            case 5: return now.march.stretch;
            case 6: return now.march.steps;
            case 7: return now.march.breath;
            case 8: return now.march.pauseLeft;
            case 9: return now.march.allSteps;
            case 10: return now.march.skipped;
            case 11: return now.march.gasps;
            case 12: return now.march.songs;
            case 13: return now.march.sung;
            case 14: return now.march.isAtEndOf(now.road) ? 1 : 0;
            default: return BAD_VALUE;
        }
    }

    public int count(int what) {
        switch (what) {
            case TEMPO:
            case PAUSE:
            case GASP:
            case REST:
            case BREATH:
            case MUD: return now.settings.valueOf(what);
            case 6: return now.song.lines;
            case 7: return now.song.allBeats();
            case 8: return now.song.allMarks();
            case 9: return now.road.stretches;
            case 10: return now.road.allSteps();
            case 11: return pad.length;
            case 12: return history.size;
            default: return BAD_VALUE;
        }
    }

    // ---- what if; nothing changes

    public int untilWalked(int what) {
        if (what < 0 || what > 3) {
            return BAD_VALUE;
        }
        if (!isReady()) {
            return NOT_POSSIBLE;
        }
        trial.copyFrom(now.march);
        trial.goUntilWalked(now.song, now.road, now.settings, MOST_LOOKED_AHEAD);
        if (!trial.isAtEndOf(now.road)) {
            return NONE;
        }
        switch (what) {
            case 0: return trial.beats - now.march.beats;
            case 1: return trial.ticks - now.march.ticks;
            case 2: return trial.gasps - now.march.gasps;
            default: return trial.songs - now.march.songs;
        }
    }

    public int together() {
        if (!isReady()) {
            return NOT_POSSIBLE;
        }
        trial.copyFrom(now.march);
        for (int beats = 1; beats <= MOST_LOOKED_AHEAD && !trial.isAtEndOf(now.road); beats++) {
            int songs = trial.songs;
            int stretch = trial.stretch;
            trial.goOn(now.song, now.road, now.settings);
            if (trial.songs > songs && trial.stretch > stretch) {
                return beats;
            }
        }
        return NONE;
    }

    public int meets(int stretch, int way) {
        if (!now.road.has(stretch)) {
            return NO_SUCH;
        }
        if (way != 0 && way != 1) {
            return BAD_VALUE;
        }
        if (now.song.lines == 0) {
            return NOT_POSSIBLE;
        }
        int steps = now.road.stepsOf(stretch);
        int beats = now.song.allBeats();
        return way == 0 ? songsByCounting(beats, steps) : songsAtOnce(beats, steps);
    }

    /**
     * A beat without a gasp takes and gives the same breath whatever BREATH is, so one walk with
     * more breath than it can use tells how far below BREATH the breath ever gets.
     */
    public int leastBreath() {
        if (!isReady()) {
            return NOT_POSSIBLE;
        }
        trialSettings.copyFrom(now.settings);
        trialSettings.change(BREATH, ENDLESS_BREATH);
        trial.startAnew(ENDLESS_BREATH);
        int lowest = ENDLESS_BREATH;
        for (int i = 0; i < MOST_LOOKED_AHEAD && !trial.isAtEndOf(now.road); i++) {
            trial.goOn(now.song, now.road, trialSettings);
            lowest = Math.min(lowest, trial.breath);
        }
        int needed = Math.max(LEAST_VALUES[BREATH], ENDLESS_BREATH - lowest);
        if (!trial.isAtEndOf(now.road) || needed > MOST_VALUES[BREATH]) {
            return NONE;
        }
        return needed;
    }

    public int bestPause() {
        if (!isReady()) {
            return NOT_POSSIBLE;
        }
        trialSettings.copyFrom(now.settings);
        int best = NONE;
        int mostBeats = MOST_LOOKED_AHEAD;
        for (int pause = LEAST_VALUES[PAUSE]; pause <= MOST_VALUES[PAUSE]; pause++) {
            trialSettings.change(PAUSE, pause);
            trial.startAnew(now.settings.valueOf(BREATH));
            trial.goUntilWalked(now.song, now.road, trialSettings, mostBeats);
            if (trial.isAtEndOf(now.road)) {
                best = pause;
                // A greater pause is better only with fewer beats, so no more need be walked.
                mostBeats = trial.beats - 1;
            }
        }
        return best;
    }

    // ---- texts

    public int put(long characters) {
        int howMany = Pad.charactersIn(characters);
        if (howMany == 0) {
            return BAD_VALUE;
        }
        if (pad.length + howMany > MOST_CHARACTERS) {
            return TOO_MANY;
        }
        for (int behind = howMany - 1; behind >= 0; behind--) {
            pad.append(Pad.codeIn(characters, behind));
        }
        return pad.length;
    }

    public int wipe() {
        int length = pad.length;
        pad.empty();
        return length;
    }

    public int fault() {
        return pad.faultIndex();
    }

    // ---- undo, saving

    public int undo() {
        if (history.size == 0) {
            return NOT_POSSIBLE;
        }
        history.takeBackInto(now);
        return history.size;
    }

    public int save(int slot) {
        if (!isSlot(slot)) {
            return BAD_VALUE;
        }
        State kept = slots[slot];
        if (kept != null) {
            kept.copyFrom(now);
            isSaved[slot] = true;
        }
        return now.march.beats;
    }

    public int restore(int slot) {
        if (!isSlot(slot)) {
            return BAD_VALUE;
        }
        State kept = slots[slot];
        if (kept == null || !isSaved[slot]) {
            return NOT_POSSIBLE;
        }
        history.record(now);
        now.copyFrom(kept);
        return now.march.beats;
    }

    // ---- helpers of the calls above

    private boolean isReady() {
        return now.song.lines > 0 && now.road.stretches > 0;
    }

    private static boolean isSlot(int slot) {
        return slot >= 0 && slot < SLOTS;
    }

    /** At the latest, as many songs as the stretch has steps meet it. */
    private static int songsByCounting(int beats, int steps) {
        for (int songs = 1; songs < steps; songs++) {
            if (songs * beats % steps == 0) {
                return songs;
            }
        }
        return steps;
    }

    private static int songsAtOnce(int beats, int steps) {
        int shared = greatestShared(beats, steps);
        return shared > 0 ? steps / shared : steps;
    }

    private static int greatestShared(int one, int other) {
        int greater = one;
        int rest = other;
        for (int i = 0; i < MOST_DIVISIONS && rest != 0; i++) {
            int next = greater % rest;
            greater = rest;
            rest = next;
        }
        return greater;
    }

    // The classes below look at an index against its row's length as well as against the count of
    // what the row holds, so that the lines that use it are safe by themselves; what is asked of a
    // line, foot or stretch that is not there counts as 0, so that sums can go over whole rows.

    /** The six settings. */
    private static final class Settings {
        private final int[] values = new int[SETTINGS];

        Settings() {
            for (int i = 0; i < SETTINGS; i++) {
                values[i] = FIRST_VALUES[i];
            }
        }

        static boolean has(int setting) {
            return setting >= 0 && setting < SETTINGS;
        }

        static boolean allows(int setting, int value) {
            return has(setting) && value >= LEAST_VALUES[setting] && value <= MOST_VALUES[setting];
        }

        int valueOf(int setting) {
            return has(setting) ? values[setting] : 0;
        }

        /** Leaves the range to the caller: a trial may go beyond it. */
        void change(int setting, int value) {
            if (has(setting)) {
                values[setting] = value;
            }
        }

        void copyFrom(Settings other) {
            for (int i = 0; i < SETTINGS; i++) {
                values[i] = other.values[i];
            }
        }
    }

    /** Lines of feet; the feet of line n stand in the rows from n * MOST_FEET on. */
    private static final class Song {
        private int lines;
        private final int[] feet = new int[MOST_LINES];
        private final int[] beats = new int[FEET_ROW];
        private final boolean[] marks = new boolean[FEET_ROW];

        void clear() {
            lines = 0;
        }

        void addLine() {
            if (lines >= 0 && lines < MOST_LINES) {
                feet[lines] = 0;
                lines++;
            }
        }

        /** Adds a foot to the last line. */
        void addFoot(int beatsOfFoot) {
            int line = lines - 1;
            if (!hasLine(line) || feet[line] < 0 || feet[line] >= MOST_FEET) {
                return;
            }
            int place = line * MOST_FEET + feet[line];
            beats[place] = beatsOfFoot;
            marks[place] = false;
            feet[line]++;
        }

        void markLastFoot() {
            int line = lines - 1;
            int foot = feetOf(line) - 1;
            if (hasFoot(line, foot)) {
                marks[line * MOST_FEET + foot] = true;
            }
        }

        boolean hasLine(int line) {
            return line >= 0 && line < lines && line < MOST_LINES;
        }

        boolean hasFoot(int line, int foot) {
            return hasLine(line) && foot >= 0 && foot < feet[line] && foot < MOST_FEET;
        }

        int feetOf(int line) {
            return hasLine(line) ? feet[line] : 0;
        }

        int beatsOf(int line, int foot) {
            return hasFoot(line, foot) ? beats[line * MOST_FEET + foot] : 0;
        }

        boolean isMarked(int line, int foot) {
            return hasFoot(line, foot) && marks[line * MOST_FEET + foot];
        }

        int beatsOfLine(int line) {
            int sum = 0;
            for (int foot = 0; foot < MOST_FEET; foot++) {
                sum += beatsOf(line, foot);
            }
            return sum;
        }

        int marksOfLine(int line) {
            int sum = 0;
            for (int foot = 0; foot < MOST_FEET; foot++) {
                sum += isMarked(line, foot) ? 1 : 0;
            }
            return sum;
        }

        int allBeats() {
            int sum = 0;
            for (int line = 0; line < MOST_LINES; line++) {
                sum += beatsOfLine(line);
            }
            return sum;
        }

        int allMarks() {
            int sum = 0;
            for (int line = 0; line < MOST_LINES; line++) {
                sum += marksOfLine(line);
            }
            return sum;
        }

        void copyFrom(Song other) {
            lines = other.lines;
            for (int i = 0; i < MOST_LINES; i++) {
                feet[i] = other.feet[i];
            }
            for (int i = 0; i < FEET_ROW; i++) {
                beats[i] = other.beats[i];
                marks[i] = other.marks[i];
            }
        }
    }

    /** A row of stretches. */
    private static final class Road {
        private int stretches;
        private final int[] steps = new int[MOST_STRETCHES];
        private final int[] slopes = new int[MOST_STRETCHES];
        private final boolean[] muds = new boolean[MOST_STRETCHES];

        void add(int stepsOfStretch, int slope, boolean hasMud) {
            if (stretches >= 0 && stretches < MOST_STRETCHES) {
                steps[stretches] = stepsOfStretch;
                slopes[stretches] = slope;
                muds[stretches] = hasMud;
                stretches++;
            }
        }

        void remove(int stretch) {
            if (!has(stretch)) {
                return;
            }
            for (int i = stretch; i + 1 < MOST_STRETCHES; i++) {
                steps[i] = steps[i + 1];
                slopes[i] = slopes[i + 1];
                muds[i] = muds[i + 1];
            }
            stretches--;
        }

        boolean has(int stretch) {
            return stretch >= 0 && stretch < stretches && stretch < MOST_STRETCHES;
        }

        int stepsOf(int stretch) {
            return has(stretch) ? steps[stretch] : 0;
        }

        int slopeOf(int stretch) {
            return has(stretch) ? slopes[stretch] : 0;
        }

        boolean isMuddy(int stretch) {
            return has(stretch) && muds[stretch];
        }

        /** Behind every mud - 1 steps comes a skipped beat, but not behind the last step. */
        int beatsToSing(int stretch, int mud) {
            int needed = stepsOf(stretch);
            if (!isMuddy(stretch) || mud < 2) {
                return needed;
            }
            return needed + (needed - 1) / (mud - 1);
        }

        int allSteps() {
            int sum = 0;
            for (int stretch = 0; stretch < MOST_STRETCHES; stretch++) {
                sum += stepsOf(stretch);
            }
            return sum;
        }

        void copyFrom(Road other) {
            stretches = other.stretches;
            for (int i = 0; i < MOST_STRETCHES; i++) {
                steps[i] = other.steps[i];
                slopes[i] = other.slopes[i];
                muds[i] = other.muds[i];
            }
        }
    }

    /** A place in a song and on a road, and what has happened until then. */
    private static final class March {
        private int beats;
        private int ticks;
        private int line;
        private int foot;
        private int beat;
        private int stretch;
        private int steps;
        private int sungOnStretch;
        private int breath;
        private int pauseLeft;
        private int allSteps;
        private int skipped;
        private int gasps;
        private int songs;
        private int sung;

        void startAnew(int fullBreath) {
            beats = 0;
            ticks = 0;
            line = 0;
            foot = 0;
            beat = 0;
            stretch = 0;
            steps = 0;
            sungOnStretch = 0;
            breath = fullBreath;
            pauseLeft = 0;
            allSteps = 0;
            skipped = 0;
            gasps = 0;
            songs = 0;
            sung = 0;
        }

        boolean isAtEndOf(Road road) {
            return road.stretches > 0 && stretch >= road.stretches;
        }

        void goUntilWalked(Song song, Road road, Settings settings, int mostBeats) {
            for (int i = 0; i < mostBeats && !isAtEndOf(road); i++) {
                goOn(song, road, settings);
            }
        }

        /** One beat. */
        void goOn(Song song, Road road, Settings settings) {
            int climb = Math.max(0, road.slopeOf(stretch));
            int need = 1 + climb;
            if (pauseLeft == 0 && breath < need) {
                gasps++;
                pauseLeft = settings.valueOf(GASP);
            }
            beats++;
            ticks += settings.valueOf(TEMPO);
            if (pauseLeft > 0) {
                pauseLeft--;
                breath = Math.min(settings.valueOf(BREATH), breath + settings.valueOf(REST));
                return;
            }
            ticks += climb;
            breath -= need;
            sung++;
            stepOn(road, settings.valueOf(MUD));
            singOn(song, settings.valueOf(PAUSE));
        }

        private void stepOn(Road road, int mud) {
            sungOnStretch++;
            if (road.isMuddy(stretch) && mud > 0 && sungOnStretch % mud == 0) {
                skipped++;
                return;
            }
            steps++;
            allSteps++;
            if (steps >= road.stepsOf(stretch)) {
                stretch++;
                steps = 0;
                sungOnStretch = 0;
            }
        }

        private void singOn(Song song, int pause) {
            beat++;
            if (beat < song.beatsOf(line, foot)) {
                return;
            }
            if (song.isMarked(line, foot)) {
                pauseLeft = pause;
            }
            beat = 0;
            foot++;
            if (foot < song.feetOf(line)) {
                return;
            }
            foot = 0;
            line++;
            if (line < song.lines) {
                return;
            }
            line = 0;
            songs++;
        }

        void copyFrom(March other) {
            beats = other.beats;
            ticks = other.ticks;
            line = other.line;
            foot = other.foot;
            beat = other.beat;
            stretch = other.stretch;
            steps = other.steps;
            sungOnStretch = other.sungOnStretch;
            breath = other.breath;
            pauseLeft = other.pauseLeft;
            allSteps = other.allSteps;
            skipped = other.skipped;
            gasps = other.gasps;
            songs = other.songs;
            sung = other.sung;
        }
    }

    /** What undo and the slots bring back. */
    private static final class State {
        private final Settings settings = new Settings();
        private final Song song = new Song();
        private final Road road = new Road();
        private final March march = new March();

        void startMarch() {
            march.startAnew(settings.valueOf(BREATH));
        }

        void copyFrom(State other) {
            settings.copyFrom(other.settings);
            song.copyFrom(other.song);
            road.copyFrom(other.road);
            march.copyFrom(other.march);
        }
    }

    /** A ring of the latest states, so that dropping the oldest one moves nothing. */
    private static final class History {
        private final State[] states = new State[MOST_STATES];
        private int oldest;
        private int size;

        History() {
            for (int i = 0; i < MOST_STATES; i++) {
                states[i] = new State();
            }
        }

        void record(State state) {
            if (size == MOST_STATES) {
                oldest = placeOf(1);
                size--;
            }
            State kept = stateAt(size);
            if (kept != null) {
                kept.copyFrom(state);
                size++;
            }
        }

        void takeBackInto(State state) {
            if (size <= 0) {
                return;
            }
            size--;
            State kept = stateAt(size);
            if (kept != null) {
                state.copyFrom(kept);
            }
        }

        private State stateAt(int behindOldest) {
            int place = placeOf(behindOldest);
            return place >= 0 && place < MOST_STATES ? states[place] : null;
        }

        private int placeOf(int behindOldest) {
            return Math.floorMod(oldest + behindOldest, MOST_STATES);
        }
    }

    /** The text from which a song is read. */
    private static final class Pad {
        private final int[] codes = new int[MOST_CHARACTERS];
        private int length;

        /** How many characters the number holds; 0 if it is not as it has to be. */
        static int charactersIn(long characters) {
            int howMany = 0;
            long rest = characters;
            while (rest != 0 && howMany < MOST_PUT) {
                int code = codeIn(rest, 0);
                if (code < 33 || code > 126) {
                    return 0;
                }
                howMany++;
                rest = rest >>> 8;
            }
            return howMany;
        }

        /** The code of the character that has so many others behind it. */
        static int codeIn(long characters, int othersBehind) {
            return (int) ((characters >>> (8 * othersBehind)) & 255);
        }

        void append(int code) {
            if (length >= 0 && length < MOST_CHARACTERS) {
                codes[length] = code;
                length++;
            }
        }

        void empty() {
            length = 0;
        }

        int faultIndex() {
            int lines = 1;
            int feet = 0;
            boolean mayMark = false;
            for (int i = 0; i < length && i < MOST_CHARACTERS; i++) {
                int code = codes[i];
                if (code == '\'') {
                    if (!mayMark) {
                        return i;
                    }
                    mayMark = false;
                } else if (code == '/') {
                    if (feet == 0 || lines == MOST_LINES) {
                        return i;
                    }
                    lines++;
                    feet = 0;
                    mayMark = false;
                } else {
                    if (beatsMeantBy(code) == 0 || feet == MOST_FEET) {
                        return i;
                    }
                    feet++;
                    mayMark = true;
                }
            }
            return feet == 0 ? length : NONE;
        }

        /** To be called only when there is no fault. */
        void writeInto(Song song) {
            song.clear();
            song.addLine();
            for (int i = 0; i < length && i < MOST_CHARACTERS; i++) {
                int code = codes[i];
                if (code == '\'') {
                    song.markLastFoot();
                } else if (code == '/') {
                    song.addLine();
                } else {
                    song.addFoot(beatsMeantBy(code));
                }
            }
        }

        private static int beatsMeantBy(int code) {
            switch (code) {
                case 'u': return 2;
                case 'd': return 3;
                case 'q': return 4;
                default: return 0;
            }
        }
    }
}
