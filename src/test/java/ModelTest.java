import java.util.Map;
import java.util.Random;
import java.util.TreeMap;

/** Long runs of calls on the program and on the model side by side; the seeds are fixed, so each run is the same. */
public final class ModelTest {
    private static final int RUNS = 600;
    /** What an object answers after so many calls is free. */
    private static final int CALLS = 512;
    private static final int MOST_CALLS_OF_A_STEP = 40;

    private final Checks checks = new Checks("ModelTest");
    private final Map<String, Integer> seen = new TreeMap<>();
    private Random random;
    private SlotTurns x;
    private Model y;
    private int run;
    private int call;

    public static void main(String[] args) {
        ModelTest test = new ModelTest();
        for (int run = 0; run < RUNS; run++) {
            test.walk(run);
        }
        test.everyMotor();
        test.allKindsWereSeen();
        test.checks.end();
    }

    private void walk(int number) {
        run = number;
        random = new Random(7919L * number + 1);
        x = new SlotTurns();
        y = new Model();
        call = 0;
        while (call < CALLS - MOST_CALLS_OF_A_STEP) {
            switch (number % 4) {
                case 0 -> stepOfAll();
                case 1 -> stepOfGroups();
                case 2 -> stepOfMade();
                default -> stepOfSheets();
            }
        }
        while (call < CALLS) {
            lastCalls();
        }
    }

    /** One call each, up to the last that an object answers. */
    private void lastCalls() {
        switch (random.nextInt(8)) {
            case 0 -> coil(number(0, phases() - 1), number(0, slots() - 1), number(0, slots() - 1), number(1, 99));
            case 1 -> use(number(0, y.count(0) - 1), random.nextBoolean());
            case 2 -> told(number(0, y.count(0) - 1), number(0, 4));
            case 3 -> wave(number(0, phases() - 1), number(1, 47), number(0, y.count(5) - 1));
            case 4 -> mend();
            case 5 -> tour(number(0, phases() - 1));
            case 6 -> ways(number(0, phases() - 1), number(1, 4));
            default -> picked(number(0, 2));
        }
    }

    /** Each motor there is, with its least, middle and greatest span. */
    private void everyMotor() {
        for (int q = 3; q <= 24; q++) {
            for (int p = 1; p <= 6; p++) {
                for (int m = 1; m <= 3; m++) {
                    run = 10000 + 100 * q + 10 * p + m;
                    for (int b : new int[] {1, q / 2, q - 1}) {
                        call = 0;
                        x = new SlotTurns();
                        y = new Model();
                        motor(q, p, m);
                        everyNumber();
                        make(b);
                        everyCoilAndWave();
                    }
                }
            }
        }
    }

    private void everyNumber() {
        for (int what = 0; what < 8; what++) {
            count(what);
        }
        for (int i = -1; i < 25; i++) {
            cyclotomic(i);
        }
    }

    private void everyCoilAndWave() {
        for (int coil = 0; coil < slots(); coil++) {
            for (int what = 0; what < 5; what++) {
                told(coil, what);
            }
        }
        for (int tone : new int[] {1, 2, 3, y.count(3), slots(), 47}) {
            balanced(tone);
            for (int i = 0; i < y.count(5); i++) {
                wave(phases() - 1, tone, i);
            }
        }
        copper();
        mend();
    }

    // ---- kinds of runs

    private void stepOfAll() {
        int kind = random.nextInt(40);
        if (kind == 0) {
            motor(number(3, 24), number(1, 6), number(1, 3));
        } else if (kind == 1) {
            make(number(1, slots() - 1));
        } else if (kind == 2) {
            clear();
        } else if (kind < 12) {
            coil(number(0, phases() - 1), number(0, slots() - 1), number(0, slots() - 1), number(1, 99));
        } else if (kind < 16) {
            use(number(0, y.count(0) - 1), random.nextBoolean());
        } else if (kind < 20) {
            sheetCall();
        } else {
            ask();
        }
    }

    /** Coils like one another but turned, few turns: ways, mends and turns that are found. */
    private void stepOfGroups() {
        int kind = random.nextInt(30);
        if (kind == 0 || call == 0) {
            int[] common = {6, 12, 18, 24, 9, 8, 15, 21, 20, 4, 3};
            motor(common[random.nextInt(common.length)], number(1, 4), random.nextInt(4) == 0 ? number(1, 2) : 3);
        } else if (kind == 1) {
            clear();
        } else if (kind < 7) {
            group();
        } else if (kind < 12) {
            use(number(0, y.count(0) - 1), random.nextInt(3) != 0);
        } else {
            ask();
        }
    }

    private void group() {
        int q = slots();
        int m = phases();
        int in = random.nextInt(q);
        int span = 1 + random.nextInt(q - 1);
        int turns = 1 + random.nextInt(3);
        int turn = m == 1 ? 0 : random.nextInt(3) == 0 ? random.nextInt(q) : q / m;
        for (int f = 0; f < m; f++) {
            int at = (in + f * turn) % q;
            coil(f, at, (at + span) % q, turns);
        }
    }

    /** Made motors of which single coils are cut out. */
    private void stepOfMade() {
        int kind = random.nextInt(40);
        if (kind == 0 || call == 0) {
            motor(random.nextBoolean() ? 3 * number(1, 8) : number(3, 24), number(1, 6), number(1, 3));
            make(number(1, slots() - 1));
        } else if (kind == 1) {
            make(number(1, slots() - 1));
        } else if (kind < 9) {
            use(number(0, y.count(0) - 1), random.nextInt(4) != 0);
        } else if (kind == 9) {
            cutAllButSome();
        } else {
            ask();
        }
    }

    private void cutAllButSome() {
        int kept = random.nextInt(12);
        for (int i = 0; i < y.count(0); i++) {
            use(i, random.nextInt(24) < kept);
        }
    }

    private void stepOfSheets() {
        int kind = random.nextInt(30);
        if (kind == 0) {
            clear();
        } else if (kind == 1) {
            motor(number(3, 24), number(1, 6), number(1, 3));
        } else if (kind == 2) {
            fillSheet();
        } else if (kind < 24) {
            sheetCall();
        } else {
            ask();
        }
    }

    private void fillSheet() {
        int sheet = random.nextInt(4);
        int lane = random.nextInt(3);
        int n = 4 * random.nextInt(6) + random.nextInt(4);
        sheet(sheet, lane, n);
        for (int i = 0; i < n; i++) {
            int most = i % 4 == 0 ? phases() : i % 4 == 3 ? 99 : slots();
            int v = random.nextInt(most) + (i % 4 == 3 ? 1 : 0);
            item(sheet, lane, i, random.nextInt(60) == 0 ? v - 256 : v);
        }
        coils(sheet, lane, 0, n / 4);
        told(number(0, y.count(0) - 1), number(0, 4));
    }

    private void sheetCall() {
        int sheet = number(0, 3);
        int lane = number(0, 2);
        switch (random.nextInt(6)) {
            case 0 -> sheet(sheet, lane, random.nextInt(4) == 0 ? number(0, 96) : number(0, 9));
            case 1 -> drop(sheet);
            case 2, 3 -> item(sheet, lane, number(0, 9), random.nextBoolean() ? number(0, 24) : random.nextInt());
            default -> coils(sheet, lane, number(0, 5), random.nextInt(3) == 0 ? number(0, 24) : number(0, 2));
        }
    }

    private void ask() {
        int phase = number(0, phases() - 1);
        int tone = random.nextBoolean() ? y.count(3) : number(1, 47);
        switch (random.nextInt(18)) {
            case 0 -> told(number(0, y.count(0) - 1), number(0, 4));
            case 1 -> sides(number(0, slots() - 1));
            case 2 -> count(number(0, 7));
            case 3 -> cyclotomic(number(0, y.count(5)));
            case 4, 5 -> wave(phase, tone, number(0, y.count(5) - 1));
            case 6 -> isStill(phase, tone);
            case 7, 8 -> balanced(tone);
            case 9, 10 -> waysAndWayOf(phase, number(1, 4));
            case 11 -> copper();
            case 12 -> tourAndStops(phase);
            case 13 -> mendAndPicked();
            case 14, 15 -> shortsAndPicked(phase);
            case 16 -> wayOf(number(0, y.count(0) - 1));
            default -> picked(number(0, 2));
        }
    }

    private void waysAndWayOf(int phase, int g) {
        ways(phase, g);
        for (int i = 0; i < y.count(0); i += 1 + random.nextInt(4)) {
            wayOf(i);
        }
    }

    private void tourAndStops(int phase) {
        tour(phase);
        for (int i = -2; i < 8; i++) {
            tourAt(i);
        }
    }

    private void mendAndPicked() {
        mend();
        for (int i = -1; i < 3; i++) {
            picked(i);
        }
    }

    private void shortsAndPicked(int phase) {
        int all = 0;
        for (int i = 0; i < y.count(0); i++) {
            all += y.told(i, 0) == phase && y.told(i, 4) == 1 ? y.told(i, 3) : 0;
        }
        int less = random.nextInt(3) == 0 ? random.nextInt(9) : random.nextInt(all + 2);
        shorts(phase, random.nextInt(20) == 0 ? number(0, 9999) : all - less);
        for (int i = -1; i < 4; i++) {
            picked(i);
        }
    }

    // ---- numbers, now and then beyond what is told

    private int slots() {
        return y.count(2);
    }

    private int phases() {
        return y.count(4);
    }

    private int number(int least, int most) {
        int kind = random.nextInt(40);
        if (kind == 0) {
            return least - 1;
        }
        if (kind == 1) {
            return most + 1;
        }
        if (kind == 2) {
            int[] far = {Integer.MIN_VALUE, Integer.MAX_VALUE, -1, 0, 1 << 30, random.nextInt()};
            return far[random.nextInt(far.length)];
        }
        return most < least ? least : least + random.nextInt(most - least + 1);
    }

    // ---- calls side by side

    private void both(String name, int got, int want, int... with) {
        StringBuilder text = new StringBuilder("run " + run + ", call " + call + ": " + name + "(");
        for (int i = 0; i < with.length; i++) {
            text.append(i == 0 ? "" : ", ").append(with[i]);
        }
        checks.due(text.append(")").toString(), got, want);
        seen.merge(name + " " + (want < 4 ? want : 4), 1, Integer::sum);
        call++;
    }

    private void motor(int q, int p, int m) {
        both("motor", x.motor(q, p, m), y.motor(q, p, m), q, p, m);
    }

    private void coil(int phase, int in, int out, int turns) {
        both("coil", x.coil(phase, in, out, turns), y.coil(phase, in, out, turns), phase, in, out, turns);
    }

    private void use(int coil, boolean is) {
        both("use", x.use(coil, is), y.use(coil, is), coil, is ? 1 : 0);
    }

    private void clear() {
        both("clear", x.clear(), y.clear());
    }

    private void make(int b) {
        both("make", x.make(b), y.make(b), b);
    }

    private void told(int coil, int what) {
        both("told", x.told(coil, what), y.told(coil, what), coil, what);
    }

    private void sides(int slot) {
        both("sides", x.sides(slot), y.sides(slot), slot);
    }

    private void count(int what) {
        both("count", x.count(what), y.count(what), what);
    }

    private void cyclotomic(int i) {
        both("cyclotomic", x.cyclotomic(i), y.cyclotomic(i), i);
    }

    private void wave(int phase, int tone, int i) {
        both("wave", x.wave(phase, tone, i), y.wave(phase, tone, i), phase, tone, i);
    }

    private void isStill(int phase, int tone) {
        both("isStill", x.isStill(phase, tone), y.isStill(phase, tone), phase, tone);
    }

    private void balanced(int tone) {
        both("balanced", x.balanced(tone), y.balanced(tone), tone);
    }

    private void ways(int phase, int g) {
        both("ways", x.ways(phase, g), y.ways(phase, g), phase, g);
    }

    private void wayOf(int coil) {
        both("wayOf", x.wayOf(coil), y.wayOf(coil), coil);
    }

    private void copper() {
        both("copper", x.copper(), y.copper());
    }

    private void tour(int phase) {
        both("tour", x.tour(phase), y.tour(phase), phase);
    }

    private void tourAt(int i) {
        both("tourAt", x.tourAt(i), y.tourAt(i), i);
    }

    private void mend() {
        both("mend", x.mend(), y.mend());
    }

    private void shorts(int phase, int reading) {
        both("shorts", x.shorts(phase, reading), y.shorts(phase, reading), phase, reading);
    }

    private void picked(int i) {
        both("picked", x.picked(i), y.picked(i), i);
    }

    private void sheet(int sheet, int lane, int n) {
        both("sheet", x.sheet(sheet, lane, n), y.sheet(sheet, lane, n), sheet, lane, n);
    }

    private void drop(int sheet) {
        both("drop", x.drop(sheet), y.drop(sheet), sheet);
    }

    private void item(int sheet, int lane, int i, int v) {
        both("item", x.item(sheet, lane, i, v), y.item(sheet, lane, i, v), sheet, lane, i, v);
    }

    private void coils(int sheet, int lane, int i, int n) {
        both("coils", x.coils(sheet, lane, i, n), y.coils(sheet, lane, i, n), sheet, lane, i, n);
    }

    /** The runs are worth something only while each kind of answer comes up; FULL of coils never can. */
    private void allKindsWereSeen() {
        String[] kinds = {
            "motor 1", "motor -1", "coil 0", "coil 4", "coil -1", "coil -2", "use 0", "use 1", "use -1",
            "clear 0", "clear 4", "make 4", "make -1", "told 0", "told 4", "told -1", "sides 0", "sides 1", "sides 2",
            "sides -1", "count 0", "count 1", "count -1", "cyclotomic -1001", "cyclotomic -1", "cyclotomic 1",
            "wave -100001", "wave 0", "wave -3", "wave 4", "isStill 0", "isStill 1", "isStill -1", "balanced 0",
            "balanced 1", "balanced 4", "balanced -4", "balanced -1", "ways 1", "ways -1", "ways -3", "ways -4",
            "wayOf 0", "wayOf 1", "wayOf 2", "wayOf 3", "wayOf -1", "wayOf -4", "copper 0", "copper 4", "tour 0",
            "tour 4", "tour -1", "tour -3", "tour -4", "tourAt 0", "tourAt 4", "tourAt -1", "mend 0", "mend 1",
            "mend 2", "mend -4", "shorts 0", "shorts 1", "shorts 2", "shorts 3", "shorts -1", "shorts -4",
            "picked 0", "picked 4", "picked -1", "sheet 0", "sheet 4", "sheet -1", "sheet -14", "drop 0", "drop 4",
            "drop -1", "drop -11", "item 1", "item -1", "item -11", "item -12", "item -13", "coils 0", "coils 4",
            "coils -1", "coils -2", "coils -11", "coils -12", "coils -13"};
        for (String kind : kinds) {
            checks.holds("the runs saw " + kind + " often enough", seen.getOrDefault(kind, 0) >= 5);
        }
    }
}
