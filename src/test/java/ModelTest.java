import java.util.Random;

/** Runs of calls with fixed seeds, each answer compared with that of the reference. */
public final class ModelTest {
    private static final int RUNS = 300;
    /** A text may take some sixty calls more, and an object is good for 512. */
    private static final int CALLS = 440;
    private static final int[] FAR_OFF = {Integer.MIN_VALUE, Integer.MAX_VALUE, -1000, 1000, 128, 256, 65536, -128};

    private final Random random;
    private final MarchMetres x = new MarchMetres();
    private final Reference want = new Reference();
    private final String run;
    private int calls = 0;

    private ModelTest(int seed) {
        random = new Random(seed);
        run = "run " + seed + ": ";
    }

    private boolean mostly(int percent) {
        return random.nextInt(100) < percent;
    }

    /** A number of the range, often an end of it, and sometimes one outside. */
    private int number(int least, int most) {
        if (mostly(88)) {
            return least + random.nextInt(most - least + 1);
        }
        int[] edges = {least, most, least, most, least - 1, most + 1, FAR_OFF[random.nextInt(FAR_OFF.length)]};
        return edges[random.nextInt(edges.length)];
    }

    private String text() {
        StringBuilder text = new StringBuilder();
        int marks = random.nextInt(100);
        int slashes = random.nextInt(60);
        int length = mostly(50) ? 1 + random.nextInt(12) : 1 + random.nextInt(60);
        String feet = new String[] {"udq", "u", "d", "q", "uq"}[random.nextInt(5)];
        while (text.length() < length) {
            text.append(feet.charAt(random.nextInt(feet.length())));
            if (mostly(marks)) {
                text.append('\'');
            }
            if (mostly(slashes)) {
                text.append('/');
            }
        }
        if (mostly(10)) {
            text.setCharAt(random.nextInt(text.length()), "'/uxU~!".charAt(random.nextInt(7)));
        }
        String all = text.toString();
        return all.endsWith("/") && mostly(90) ? all.substring(0, all.length() - 1) : all;
    }

    private void putText() {
        String text = text();
        for (int from = 0; from < text.length();) {
            int to = Math.min(text.length(), from + 1 + random.nextInt(8));
            putNumber(Checks.asNumber(text.substring(from, to)));
            from = to;
        }
    }

    private void putNumber(long number) {
        due("put(" + number + ")", x.put(number), want.put(number));
    }

    private long anyNumber() {
        long number = random.nextLong();
        switch (random.nextInt(4)) {
            case 0: return number;
            case 1: return number >>> (8 * random.nextInt(8));
            case 2: return number & 0x7f7f7f7f7f7f7f7fL;
            default: return (number & 0x1f1f1f1f1f1f1f1fL | 0x2020202020202020L) >>> (8 * random.nextInt(8));
        }
    }

    private void due(String call, int got, int due) {
        calls++;
        Checks.due(run + call, got, due);
    }

    private void sing() {
        due("wipe", x.wipe(), want.wipe());
        putText();
        due("fault", x.fault(), want.fault());
        due("read", x.read(), want.read());
    }

    private void set() {
        int[][] ranges = {{1, 9}, {0, 9}, {1, 9}, {1, 20}, {5, 60}, {2, 9}};
        int setting = number(0, 5);
        int[] range = ranges[Math.floorMod(setting, 6)];
        int value = mostly(30) ? range[random.nextInt(2)] : number(range[0], range[1]);
        due("set(" + setting + ", " + value + ")", x.set(setting, value), want.set(setting, value));
    }

    private void pave() {
        int steps = mostly(30) ? 99 : mostly(50) ? number(1, 12) : number(1, 99);
        int slope = number(-3, 3);
        boolean mud = mostly(50);
        due("pave(" + steps + ", " + slope + ", " + mud + ")", x.pave(steps, slope, mud), want.pave(steps, slope, mud));
    }

    private void march() {
        int beats = mostly(60) ? number(1, 20) : number(1, 500);
        due("march(" + beats + ")", x.march(beats), want.march(beats));
    }

    private void change() {
        switch (random.nextInt(10)) {
            case 0: sing(); break;
            case 1: set(); break;
            case 2: case 3: pave(); break;
            case 4: int n = mostly(50) ? number(0, 11) : 0;
                due("tear(" + n + ")", x.tear(n), want.tear(n)); break;
            case 5: due("begin", x.begin(), want.begin()); break;
            default: march();
        }
    }

    private void ask() {
        int a = mostly(50) ? 0 : number(0, 11);
        int b = number(0, 3);
        int c = number(0, 14);
        switch (random.nextInt(6)) {
            case 0: due("line(" + a + ", " + b + ")", x.line(a, b), want.line(a, b)); break;
            case 1: due("foot(" + a + ", " + c + ", " + b + ")", x.foot(a, c, b), want.foot(a, c, b)); break;
            case 2: due("stretch(" + a + ", " + b + ")", x.stretch(a, b), want.stretch(a, b)); break;
            case 3: due("count(" + c + ")", x.count(c), want.count(c)); break;
            default: due("walk(" + c + ")", x.walk(c), want.walk(c));
        }
    }

    private void askAhead() {
        int what = number(0, 3);
        int stretch = mostly(60) ? 0 : number(0, 11);
        int way = number(0, 1);
        switch (random.nextInt(7)) {
            case 0: case 1: due("untilWalked(" + what + ")", x.untilWalked(what), want.untilWalked(what)); break;
            case 2: case 3: due("together", x.together(), want.together()); break;
            case 4: due("meets(" + stretch + ", " + way + ")", x.meets(stretch, way), want.meets(stretch, way)); break;
            case 5: due("bestPause", x.bestPause(), want.bestPause()); break;
            default: due("leastBreath", x.leastBreath(), want.leastBreath());
        }
    }

    private void useThePadOrThePast() {
        int slot = number(0, 1);
        switch (random.nextInt(9)) {
            case 0: putText(); break;
            case 1: putNumber(anyNumber()); break;
            case 2: due("wipe", x.wipe(), want.wipe()); break;
            case 3: due("fault", x.fault(), want.fault()); break;
            case 4: due("read", x.read(), want.read()); break;
            case 5: due("save(" + slot + ")", x.save(slot), want.save(slot)); break;
            case 6: due("restore(" + slot + ")", x.restore(slot), want.restore(slot)); break;
            default: due("undo", x.undo(), want.undo());
        }
    }

    private void go() {
        boolean isEmpty = mostly(15);
        for (int n = 0; n < 4 && !isEmpty; n++) {
            set();
            pave();
            sing();
        }
        while (calls < CALLS && Checks.wrongSoFar() < 20) {
            int kind = random.nextInt(100);
            if (kind < 30) {
                change();
            } else if (kind < 65) {
                ask();
            } else if (kind < 78) {
                askAhead();
            } else {
                useThePadOrThePast();
            }
        }
    }

    public static void main(String[] args) {
        for (int seed = 0; seed < RUNS && Checks.wrongSoFar() < 20; seed++) {
            new ModelTest(seed).go();
        }
        Checks.end("ModelTest");
    }
}
