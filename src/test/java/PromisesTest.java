/** One method for each promise of the document, by its number: ordinary inputs, edges, wrong inputs. */
public final class PromisesTest extends Bench {
    private PromisesTest() {
        super("PromisesTest");
    }

    public static void main(String[] args) {
        PromisesTest t = new PromisesTest();
        t.promise1NewObject();
        t.promise2Motor();
        t.promise3Coil();
        t.promise3CoilSides();
        t.promise4Use();
        t.promise5Clear();
        t.promise6Make();
        t.promise6MakeUneven();
        t.promise7Told();
        t.promise8Sides();
        t.promise9Count();
        t.promise10Cyclotomic();
        t.promise11Wave();
        t.promise12IsStill();
        t.promise13Balanced();
        t.promise14Ways();
        t.promise14WaysLimits();
        t.promise15WayOf();
        t.promise16Copper();
        t.promise17Tour();
        t.promise18TourAt();
        t.promise19Mend();
        t.promise20Shorts();
        t.promise21Picked();
        t.promise22Sheet();
        t.promise23Drop();
        t.promise24Item();
        t.promise25Coils();
        t.promise25CoilsRefused();
        t.c.end();
    }

    /** Phases 0, 1, 2 with one coil each, turned by 4 slots of 12: balanced. */
    private static void layThree(SlotTurns x, int first) {
        for (int f = 0; f < 3; f++) {
            x.coil(f, (first + 4 * f) % 12, (first + 4 * f + 6) % 12, 1);
        }
    }

    // ---- 1 the motor

    private void promise1NewObject() {
        SlotTurns x = new SlotTurns();
        c.due("count(0)", x.count(0), 0);
        c.due("count(1)", x.count(1), 0);
        c.due("count(2)", x.count(2), 12);
        c.due("count(3)", x.count(3), 1);
        c.due("count(4)", x.count(4), 3);
        c.due("clear()", x.clear(), 0);
        for (int slot = 0; slot < 12; slot++) {
            c.due("sides", x.sides(slot), 0);
        }
        for (int sheet = 0; sheet < 4; sheet++) {
            c.due("drop", x.drop(sheet), NULL);
        }
        c.due("tourAt(-1)", x.tourAt(-1), 0);
        c.due("tourAt(0)", x.tourAt(0), BAD);
        c.due("picked(0)", x.picked(0), BAD);
        c.due("wayOf(0)", x.wayOf(0), BAD);
        x.coil(0, 0, 1, 1);
        c.due("wayOf(0) ahead of ways", x.wayOf(0), NONE);
        c.due("another object", new SlotTurns().count(0), 0);
    }

    private void promise2Motor() {
        SlotTurns x = new SlotTurns();
        fill(x, 2, 0, 1, 2, 3);
        x.make(5);
        int[][] wrong = {{2, 1, 1}, {25, 1, 1}, {12, 0, 1}, {12, 7, 1}, {12, 1, 0}, {12, 1, 4}, {MIN, 1, 1},
            {MAX, 1, 1}, {12, MIN, 1}, {12, MAX, 1}, {12, 1, MIN}, {12, 1, MAX}};
        for (int[] w : wrong) {
            c.due("a wrong motor", x.motor(w[0], w[1], w[2]), BAD);
        }
        c.due("coils stay", x.count(0), 12);
        c.due("Q stays", x.count(2), 12);
        c.due("motor(3, 6, 1)", x.motor(3, 6, 1), 1);
        c.due("count(0)", x.count(0), 0);
        c.due("count(2)", x.count(2), 3);
        c.due("count(3)", x.count(3), 6);
        c.due("count(4)", x.count(4), 1);
        c.due("sides(0)", x.sides(0), 0);
        c.due("sides(3)", x.sides(3), BAD);
        c.due("motor(24, 1, 3)", x.motor(24, 1, 3), 1);
        c.due("sides(23)", x.sides(23), 0);
        c.due("sheets stay", x.drop(2), 3);
    }

    private void promise3Coil() {
        SlotTurns x = new SlotTurns();
        c.due("coil(2, 3, 11, 99)", x.coil(2, 3, 11, 99), 0);
        c.due("coil(0, 11, 0, 1)", x.coil(0, 11, 0, 1), 1);
        coilIs(x, 0, 2, 3, 11, 99, 1);
        coilIs(x, 1, 0, 11, 0, 1, 1);
        int[][] wrong = {{-1, 0, 1, 1}, {3, 0, 1, 1}, {0, -1, 1, 1}, {0, 12, 1, 1}, {0, 1, -1, 1}, {0, 1, 12, 1},
            {0, 1, 1, 1}, {0, 0, 1, 0}, {0, 0, 1, 100}, {0, 0, 1, -1}, {MIN, 0, 1, 1}, {MAX, 0, 1, 1},
            {0, MIN, 1, 1}, {0, MAX, 1, 1}, {0, 1, MIN, 1}, {0, 1, MAX, 1}, {0, 0, 1, MIN}, {0, 0, 1, MAX}};
        for (int[] w : wrong) {
            c.due("a wrong coil", x.coil(w[0], w[1], w[2], w[3]), BAD);
        }
        c.due("count(0)", x.count(0), 2);
        c.due("sides(1)", x.sides(1), 0);
    }

    private void promise3CoilSides() {
        SlotTurns x = motor(24, 1, 1);
        c.due("coil(0, 0, 1, 1)", x.coil(0, 0, 1, 1), 0);
        c.due("coil(0, 2, 0, 1)", x.coil(0, 2, 0, 1), 1);
        x.use(0, false);
        c.due("a full slot in", x.coil(0, 0, 3, 1), NOT);
        c.due("a full slot out", x.coil(0, 3, 0, 1), NOT);
        c.due("BAD ahead of NOT", x.coil(0, 0, 3, 100), BAD);
        c.due("one slot, ahead of NOT", x.coil(0, 0, 0, 1), BAD);
        c.due("sides(3)", x.sides(3), 0);
        c.due("count(0)", x.count(0), 2);
        x.make(1);
        c.due("24 coils fill all slots", x.coil(0, 0, 1, 1), NOT);
        c.due("count(0)", x.count(0), 24);
    }

    private void promise4Use() {
        SlotTurns x = new SlotTurns();
        lay(x, 0, 0, 1, 1, 2, 3, 1);
        c.due("use(1, true)", x.use(1, true), 1);
        c.due("use(1, false)", x.use(1, false), 1);
        coilIs(x, 1, 0, 2, 3, 1, 0);
        c.due("count(1)", x.count(1), 1);
        c.due("use(1, false) again", x.use(1, false), 0);
        c.due("use(1, true) again", x.use(1, true), 0);
        c.due("count(1) again", x.count(1), 2);
        c.due("use(2, true)", x.use(2, true), BAD);
        c.due("use(-1, true)", x.use(-1, true), BAD);
        c.due("use(MIN, false)", x.use(MIN, false), BAD);
        c.due("use(MAX, false)", x.use(MAX, false), BAD);
        x.use(0, false);
        x.clear();
        lay(x, 0, 0, 1, 1);
        c.due("a new coil is in use", x.told(0, 4), 1);
    }

    private void promise5Clear() {
        SlotTurns x = motor(8, 2, 2);
        lay(x, 1, 0, 1, 1, 0, 2, 1, 3, 4, 9);
        x.use(1, false);
        c.due("clear()", x.clear(), 3);
        c.due("count(0)", x.count(0), 0);
        c.due("told(0, 0)", x.told(0, 0), BAD);
        c.due("sides(0)", x.sides(0), 0);
        c.due("the motor stays", x.count(2), 8);
        c.due("clear() of none", x.clear(), 0);
        c.due("coils count from 0 again", x.coil(0, 0, 1, 1), 0);
    }

    private void promise6Make() {
        SlotTurns x = new SlotTurns();
        x.coil(1, 0, 1, 7);
        for (int b : new int[] {0, 12, -1, MIN, MAX}) {
            c.due("make of a wrong span", x.make(b), BAD);
        }
        coilIs(x, 0, 1, 0, 1, 7, 1);
        c.due("make(11)", x.make(11), 12);
        coilIs(x, 0, 0, 0, 11, 1, 1);
        coilIs(x, 1, 0, 1, 0, 1, 1);
        c.due("make(5)", x.make(5), 12);
        madeIs(x, 5, new int[] {0, 0, 2, 2, 1, 1, 0, 0, 2, 2, 1, 1}, new int[] {0, 0, 1, 1, 0, 0, 1, 1, 0, 0, 1, 1});
        for (int slot = 0; slot < 12; slot++) {
            c.due("sides of a made motor", x.sides(slot), 2);
        }
        x.use(3, false);
        x.make(1);
        c.due("made anew, all are in use", x.count(1), 12);
        x.motor(8, 1, 2);
        c.due("make(3)", x.make(3), 8);
        madeIs(x, 3, new int[] {0, 0, 1, 1, 0, 0, 1, 1}, new int[] {0, 0, 0, 0, 1, 1, 1, 1});
        x.motor(6, 1, 1);
        c.due("make(2)", x.make(2), 6);
        madeIs(x, 2, new int[] {0, 0, 0, 0, 0, 0}, new int[] {0, 0, 0, 1, 1, 1});
    }

    private void promise6MakeUneven() {
        SlotTurns x = motor(10, 1, 3);
        x.make(5);
        madeIs(x, 5, new int[] {0, 0, 2, 2, 1, 0, 0, 2, 2, 1}, new int[] {0, 0, 1, 1, 0, 1, 1, 0, 0, 1});
        x.motor(6, 2, 3);
        x.make(1);
        madeIs(x, 1, new int[] {0, 1, 2, 0, 1, 2}, new int[] {0, 0, 0, 0, 0, 0});
        x.motor(6, 2, 2);
        x.make(1);
        madeIs(x, 1, new int[] {0, 1, 0, 0, 1, 0}, new int[] {0, 0, 1, 0, 0, 1});
        x.motor(24, 6, 3);
        x.make(23);
        c.due("the last one's phase", x.told(23, 0), 2 * (2 * 3 * 6 * 23 / 24 % 6) % 3);
    }

    private void promise7Told() {
        SlotTurns x = new SlotTurns();
        x.coil(1, 7, 4, 23);
        coilIs(x, 0, 1, 7, 4, 23, 1);
        int[][] wrong = {{-1, 0}, {1, 0}, {0, -1}, {0, 5}, {MIN, 0}, {MAX, 0}, {0, MIN}, {0, MAX}};
        for (int[] w : wrong) {
            c.due("told of a wrong one", x.told(w[0], w[1]), BAD);
        }
    }

    private void promise8Sides() {
        SlotTurns x = motor(5, 1, 1);
        lay(x, 0, 0, 4, 1, 4, 2, 1);
        int[] want = {1, 0, 1, 0, 2};
        for (int slot = 0; slot < 5; slot++) {
            c.due("sides(" + slot + ")", x.sides(slot), want[slot]);
        }
        x.use(1, false);
        c.due("cut out ones count, too", x.sides(4), 2);
        for (int slot : new int[] {-1, 5, MIN, MAX}) {
            c.due("sides of a wrong slot", x.sides(slot), BAD);
        }
    }

    private void promise9Count() {
        SlotTurns x = new SlotTurns();
        lay(x, 0, 0, 1, 1, 1, 2, 1, 3, 4, 1);
        x.use(1, false);
        c.due("count(0)", x.count(0), 3);
        c.due("count(1)", x.count(1), 2);
        int[] degrees = {2, 2, 4, 2, 6, 4, 6, 4, 10, 4, 12, 6, 8, 8, 16, 6, 18, 8, 12, 10, 22, 8};
        for (int q = 3; q <= 24; q++) {
            x.motor(q, 1, 3);
            c.due("the degree for " + q, x.count(5), degrees[q - 3]);
        }
        int[][] known = {{12, 1, 3, 12, 1}, {12, 5, 3, 60, 1}, {9, 1, 3, 18, 1}, {7, 3, 3, 42, 0}, {24, 4, 3, 24, 1},
            {24, 6, 3, 24, 0}, {24, 6, 2, 24, 1}, {18, 6, 3, 36, 1}, {10, 5, 2, 10, 1}, {10, 5, 1, 10, 1},
            {15, 3, 2, 30, 0}, {9, 6, 3, 36, 1}, {3, 3, 1, 6, 1}, {3, 3, 3, 6, 0}};
        for (int[] k : known) {
            x.motor(k[0], k[1], k[2]);
            c.due("count(2)", x.count(2), k[0]);
            c.due("count(3)", x.count(3), k[1]);
            c.due("count(4)", x.count(4), k[2]);
            c.due("count(6) of " + k[0] + ", " + k[1], x.count(6), k[3]);
            c.due("count(7) of " + k[0] + ", " + k[1] + ", " + k[2], x.count(7), k[4]);
        }
        for (int what : new int[] {-1, 8, MIN, MAX}) {
            c.due("count of a wrong one", x.count(what), BAD);
        }
    }

    // ---- 2 waves

    private void promise10Cyclotomic() {
        int[][] known = {
            {3, 1, 1, 1}, {4, 1, 0, 1}, {5, 1, 1, 1, 1, 1}, {6, 1, -1, 1}, {8, 1, 0, 0, 0, 1},
            {9, 1, 0, 0, 1, 0, 0, 1}, {12, 1, 0, -1, 0, 1}, {15, 1, -1, 0, 1, -1, 1, 0, -1, 1},
            {20, 1, 0, -1, 0, 1, 0, -1, 0, 1}, {21, 1, -1, 0, 1, -1, 0, 1, 0, -1, 1, 0, -1, 1},
            {24, 1, 0, 0, 0, -1, 0, 0, 0, 1}};
        SlotTurns x = new SlotTurns();
        for (int[] k : known) {
            x.motor(k[0], 1, 1);
            for (int i = 0; i < k.length - 1; i++) {
                c.due("of " + k[0] + " cyclotomic(" + i + ")", x.cyclotomic(i), k[i + 1]);
            }
            c.due("beyond the degree", x.cyclotomic(k.length - 1), -1001);
        }
        for (int i : new int[] {-1, 9, MIN, MAX}) {
            c.due("cyclotomic of a wrong one", x.cyclotomic(i), -1001);
        }
    }

    private void promise11Wave() {
        SlotTurns x = motor(5, 1, 1);
        waveIs(x, 0, 1, 0, 0, 0, 0);
        x.coil(0, 0, 4, 1);
        waveIs(x, 0, 1, 2, 1, 1, 1);
        waveIs(x, 0, 5, 0, 0, 0, 0);
        x.motor(12, 1, 3);
        lay(x, 0, 0, 6, 2);
        lay(x, 1, 4, 1, 3);
        waveIs(x, 0, 1, 4, 0, 0, 0);
        waveIs(x, 0, 2, 0, 0, 0, 0);
        waveIs(x, 0, 3, 4, 0, 0, 0);
        waveIs(x, 0, 47, 4, 0, 0, 0);
        waveIs(x, 1, 1, -3, -3, 3, 0);
        waveIs(x, 2, 1, 0, 0, 0, 0);
        lay(x, 0, 6, 5, 99);
        waveIs(x, 0, 1, 4 - 99, 99, 0, -99);
        x.use(0, false);
        waveIs(x, 0, 1, -99, 99, 0, -99);
        int[][] wrong = {{-1, 1, 0}, {3, 1, 0}, {0, 0, 0}, {0, 48, 0}, {0, 1, -1}, {0, 1, 4}, {MIN, 1, 0},
            {MAX, 1, 0}, {0, MIN, 0}, {0, MAX, 0}, {0, 1, MIN}, {0, 1, MAX}};
        for (int[] w : wrong) {
            c.due("wave of a wrong one", x.wave(w[0], w[1], w[2]), -100001);
        }
    }

    private void promise12IsStill() {
        SlotTurns x = new SlotTurns();
        c.due("no coils", x.isStill(2, 47), 1);
        lay(x, 0, 0, 6, 2);
        c.due("isStill(0, 1)", x.isStill(0, 1), 0);
        c.due("isStill(0, 2)", x.isStill(0, 2), 1);
        c.due("isStill(1, 1)", x.isStill(1, 1), 1);
        lay(x, 0, 6, 0, 2);
        c.due("one against the other", x.isStill(0, 1), 1);
        x.clear();
        lay(x, 0, 0, 1, 1, 4, 5, 1, 8, 9, 1);
        c.due("thirds together", x.isStill(0, 1), 1);
        c.due("thirds together, threefold", x.isStill(0, 3), 0);
        x.use(2, false);
        c.due("one third cut out", x.isStill(0, 1), 0);
        int[][] wrong = {{-1, 1}, {3, 1}, {0, 0}, {0, 48}, {MIN, 1}, {MAX, 1}, {0, MIN}, {0, MAX}};
        for (int[] w : wrong) {
            c.due("isStill of a wrong one", x.isStill(w[0], w[1]), BAD);
        }
    }

    private void promise13Balanced() {
        SlotTurns x = new SlotTurns();
        c.due("no coils are balanced", x.balanced(1), 0);
        layThree(x, 0);
        c.due("balanced(1)", x.balanced(1), 4);
        c.due("balanced(2)", x.balanced(2), 0);
        c.due("balanced(3): not 0 together", x.balanced(3), NONE);
        c.due("balanced(5)", x.balanced(5), 4);
        x.use(2, false);
        c.due("one cut out", x.balanced(1), NONE);
        x.clear();
        lay(x, 0, 0, 3, 1);
        lay(x, 1, 10, 1, 1);
        lay(x, 2, 8, 11, 1);
        c.due("4 and 10 fit: the least", x.balanced(2), 4);
        x.clear();
        lay(x, 0, 0, 6, 1);
        lay(x, 1, 8, 2, 1);
        lay(x, 2, 4, 10, 1);
        c.due("the other way round", x.balanced(1), 8);
        x.clear();
        lay(x, 0, 0, 6, 1);
        lay(x, 1, 6, 0, 1);
        c.due("0 together, but phase 2 is not like", x.balanced(1), NONE);
        x.motor(6, 1, 2);
        lay(x, 0, 0, 3, 2);
        lay(x, 1, 3, 0, 2);
        c.due("two phases", x.balanced(5), 3);
        x.clear();
        lay(x, 0, 0, 3, 2);
        lay(x, 1, 0, 3, 2);
        c.due("two phases, alike but not 0 together", x.balanced(1), NONE);
        x.motor(6, 1, 1);
        lay(x, 0, 0, 1, 5);
        c.due("one phase", x.balanced(47), 0);
        for (int tone : new int[] {0, 48, -1, MIN, MAX}) {
            c.due("balanced of a wrong tone", x.balanced(tone), BAD);
        }
    }

    // ---- 3 ways, tours, mends

    private void promise14Ways() {
        SlotTurns x = motor(12, 1, 2);
        lay(x, 0, 0, 6, 1, 1, 7, 1, 0, 6, 1, 1, 7, 1);
        lay(x, 1, 2, 5, 9);
        c.due("ways(0, 2)", x.ways(0, 2), 1);
        waysAre(x, 0, 0, 1, 1, NONE);
        c.due("ways(0, 1)", x.ways(0, 1), 1);
        waysAre(x, 0, 0, 0, 0, NONE);
        c.due("3 into 4 do not go", x.ways(0, 3), NONE);
        c.due("four ways not alike", x.ways(0, 4), NONE);
        waysAre(x, 0, 0, 0, 0, NONE);
        x.clear();
        lay(x, 0, 0, 6, 1, 0, 6, 1, 1, 7, 1, 1, 7, 1);
        c.due("alike ones in two ways", x.ways(0, 2), 1);
        waysAre(x, 0, 1, 0, 1);
        x.use(1, false);
        x.use(3, false);
        c.due("of those in use", x.ways(0, 2), NONE);
        x.motor(12, 2, 1);
        lay(x, 0, 0, 6, 1, 1, 7, 1, 0, 6, 1, 1, 7, 1);
        c.due("for tone 2 all are still", x.ways(0, 4), 1);
        waysAre(x, 0, 1, 2, 3);
        c.due("ways(0, 2) of still ones", x.ways(0, 2), 1);
        waysAre(x, 0, 0, 1, 1);
    }

    private void promise14WaysLimits() {
        SlotTurns x = motor(24, 1, 3);
        c.due("none in use", x.ways(0, 1), NONE);
        for (int slot = 0; slot < 9; slot++) {
            x.coil(1, 2 * slot, 2 * slot + 1, 1);
        }
        c.due("nine", x.ways(1, 2), FULL);
        c.due("wayOf after FULL", x.wayOf(0), NONE);
        x.use(4, false);
        c.due("eight", x.ways(1, 1), 1);
        waysAre(x, 0, 0, 0, 0, NONE, 0, 0, 0, 0);
        int[][] wrong = {{-1, 1}, {3, 1}, {0, 0}, {0, 5}, {MIN, 1}, {MAX, 1}, {0, MIN}, {0, MAX}};
        for (int[] w : wrong) {
            c.due("ways of a wrong one", x.ways(w[0], w[1]), BAD);
        }
        waysAre(x, 0, 0, 0, 0, NONE, 0, 0, 0, 0);
    }

    private void promise15WayOf() {
        SlotTurns x = new SlotTurns();
        lay(x, 0, 0, 6, 1, 0, 6, 1);
        lay(x, 1, 1, 2, 1);
        waysAre(x, NONE, NONE, NONE, BAD);
        x.ways(0, 2);
        waysAre(x, 0, 1, NONE, BAD);
        x.use(1, false);
        c.due("as it was then", x.wayOf(1), 1);
        x.clear();
        c.due("no such coil now", x.wayOf(1), BAD);
        x.motor(9, 2, 3);
        x.make(2);
        waysAre(x, 0, 1, NONE, NONE);
        c.due("phase 0 has 3", x.ways(0, 1), 1);
        c.due("only the latest", x.wayOf(1), x.told(1, 0) == 0 ? 0 : NONE);
        for (int coil : new int[] {-1, 9, MIN, MAX}) {
            c.due("wayOf of a wrong one", x.wayOf(coil), BAD);
        }
    }

    private void promise16Copper() {
        SlotTurns x = new SlotTurns();
        c.due("no coils", x.copper(), 0);
        lay(x, 0, 0, 11, 2);
        c.due("round", x.copper(), 2);
        lay(x, 1, 0, 6, 3);
        c.due("half round", x.copper(), 20);
        lay(x, 2, 8, 1, 10);
        c.due("the lesser way", x.copper(), 70);
        x.use(1, false);
        c.due("without one cut out", x.copper(), 52);
        x.clear();
        c.due("all gone", x.copper(), 0);
        x.motor(24, 1, 1);
        c.due("another motor", x.copper(), 0);
        for (int i = 0; i < 24; i++) {
            x.coil(0, i, (i + 12) % 24, 99);
        }
        c.due("24 coils of 99 turns half round", x.copper(), 24 * 99 * 12);
        cutOut(x, 0, 22);
        c.due("the last one", x.copper(), 99 * 12);
        cutOut(x, 23, 23);
        c.due("all cut out", x.copper(), 0);
        x.make(23);
        c.due("24 coils by one slot the lesser way", x.copper(), 24);
        x.make(13);
        c.due("24 coils by eleven slots the lesser way", x.copper(), 24 * 11);
    }

    private void promise17Tour() {
        SlotTurns x = new SlotTurns();
        c.due("none", x.tour(0), NONE);
        lay(x, 1, 0, 8, 9);
        c.due("one: from out to its own in", x.tour(1), 4);
        tourIs(x, 0);
        c.due("another phase", x.tour(0), NONE);
        x.clear();
        lay(x, 2, 0, 2, 1, 6, 8, 1, 3, 5, 1);
        c.due("the better order", x.tour(2), 6);
        tourIs(x, 0, 2, 1);
        x.use(0, false);
        c.due("without the first", x.tour(2), 6);
        tourIs(x, 1, 2);
        x.clear();
        lay(x, 0, 0, 2, 1, 3, 5, 1, 3, 5, 1);
        c.due("like ones", x.tour(0), 8);
        tourIs(x, 0, 1, 2);
        x.motor(24, 1, 1);
        x.make(1);
        c.due("24", x.tour(0), FULL);
        for (int coil = 8; coil < 24; coil++) {
            x.use(coil, false);
        }
        c.due("eight", x.tour(0), FULL);
        x.use(0, false);
        c.due("seven in a row", x.tour(0), 7);
        tourIs(x, 1, 2, 3, 4, 5, 6, 7);
        for (int phase : new int[] {-1, 1, MIN, MAX}) {
            c.due("tour of a wrong phase", x.tour(phase), BAD);
        }
    }

    private void promise18TourAt() {
        SlotTurns x = new SlotTurns();
        c.due("ahead of one", x.tourAt(-1), 0);
        c.due("ahead of one, the first", x.tourAt(0), BAD);
        lay(x, 0, 0, 2, 1, 6, 8, 1, 3, 5, 1);
        lay(x, 1, 10, 11, 1);
        x.tour(0);
        tourIs(x, 0, 2, 1);
        c.due("a tour refused", x.tour(2), NONE);
        c.due("another refused", x.tour(3), BAD);
        tourIs(x, 0, 2, 1);
        x.clear();
        x.motor(24, 1, 1);
        x.make(3);
        c.due("too many", x.tour(0), FULL);
        tourIs(x, 0, 2, 1);
        for (int i : new int[] {-2, 3, MIN, MAX}) {
            c.due("tourAt of a wrong one", x.tourAt(i), BAD);
        }
        x.clear();
        x.coil(0, 5, 6, 1);
        x.tour(0);
        tourIs(x, 0);
    }

    private void promise19Mend() {
        SlotTurns x = new SlotTurns();
        c.due("no coils: phase 0 is still", x.mend(), NONE);
        layThree(x, 0);
        c.due("nothing to mend", x.mend(), 0);
        pickedAre(x);
        lay(x, 0, 1, 2, 1);
        c.due("one too many", x.mend(), 1);
        pickedAre(x, 3);
        c.due("it stays in use", x.count(1), 4);
        x.clear();
        layThree(x, 0);
        layThree(x, 1);
        c.due("six", x.mend(), 0);
        x.use(4, false);
        c.due("beside a broken one", x.mend(), 2);
        pickedAre(x, 3, 5);
        x.use(3, false);
        x.use(1, false);
        c.due("three would be too many", x.mend(), NONE);
        pickedAre(x, 3, 5);
        mendOfOnePhase();
        mendForTheTone();
    }

    private void mendOfOnePhase() {
        SlotTurns x = motor(12, 1, 1);
        lay(x, 0, 0, 6, 1, 6, 0, 1);
        c.due("one phase that is still", x.mend(), 1);
        pickedAre(x, 0);
        lay(x, 0, 1, 7, 1, 7, 1, 1);
        c.due("the first of like ones", x.mend(), 1);
        pickedAre(x, 0);
        x.use(0, false);
        c.due("one phase that is not still", x.mend(), 0);
        x.motor(12, 1, 2);
        lay(x, 0, 0, 6, 1, 6, 0, 1);
        lay(x, 1, 2, 4, 2, 8, 10, 2);
        c.due("balanced, but still", x.balanced(1), 0);
        c.due("two cut out: 2 less and 2 more are left", x.mend(), 2);
        pickedAre(x, 0, 3);
    }

    private void mendForTheTone() {
        SlotTurns x = motor(12, 2, 3);
        layThree(x, 0);
        c.due("for tone 2 it is still", x.mend(), NONE);
        x.clear();
        lay(x, 0, 0, 3, 1);
        lay(x, 1, 4, 7, 1);
        lay(x, 2, 8, 11, 1);
        c.due("for tone 2 it is not", x.mend(), 0);
    }

    private void promise20Shorts() {
        SlotTurns x = new SlotTurns();
        lay(x, 0, 0, 1, 5, 1, 2, 3, 2, 3, 2);
        lay(x, 1, 3, 4, 50);
        lay(x, 0, 4, 5, 4);
        int[][] known = {{14, 0}, {9, 1, 0}, {12, 1, 2}, {10, 1, 4}, {8, 2, 2, 4}, {6, 2, 0, 1}, {5, 2, 0, 4},
            {7, 2, 0, 2}, {2, 3, 0, 1, 4}, {4, 3, 0, 1, 2}, {3, 3, 0, 2, 4}};
        for (int[] k : known) {
            c.due("shorts(0, " + k[0] + ")", x.shorts(0, k[0]), k[1]);
            pickedAre(x, java.util.Arrays.copyOfRange(k, 2, k.length));
        }
        for (int reading : new int[] {0, 1, 13, 15, 9999}) {
            c.due("shorts(0, " + reading + ")", x.shorts(0, reading), NONE);
        }
        c.due("a phase without coils", x.shorts(2, 0), 0);
        c.due("a phase without coils, read", x.shorts(2, 1), NONE);
        x.use(0, false);
        c.due("those in use alone", x.shorts(0, 9), 0);
        c.due("not those cut out", x.shorts(0, 4), 2);
        pickedAre(x, 1, 2);
        int[][] wrong = {{-1, 0}, {3, 0}, {0, -1}, {0, 10000}, {MIN, 0}, {MAX, 0}, {0, MIN}, {0, MAX}};
        for (int[] w : wrong) {
            c.due("shorts of a wrong one", x.shorts(w[0], w[1]), BAD);
        }
    }

    private void promise21Picked() {
        SlotTurns x = new SlotTurns();
        pickedAre(x);
        lay(x, 0, 0, 1, 5, 1, 2, 3, 2, 3, 2);
        x.shorts(0, 0);
        pickedAre(x, 0, 1, 2);
        c.due("a mend not found", x.mend(), NONE);
        c.due("shorts not found", x.shorts(0, 1), NONE);
        c.due("shorts of a wrong phase", x.shorts(3, 1), BAD);
        pickedAre(x, 0, 1, 2);
        x.clear();
        pickedAre(x, 0, 1, 2);
        for (int i : new int[] {-1, 3, MIN, MAX}) {
            c.due("picked of a wrong one", x.picked(i), BAD);
        }
        layThree(x, 0);
        lay(x, 1, 1, 2, 1);
        x.mend();
        pickedAre(x, 3);
        x.shorts(0, 1);
        pickedAre(x);
    }

    // ---- 4 sheets

    private void promise22Sheet() {
        SlotTurns x = new SlotTurns();
        c.due("sheet(0, 0, 0)", x.sheet(0, 0, 0), 0);
        c.due("sheet(3, 2, 96)", x.sheet(3, 2, 96), 96);
        int[][] bad = {{-1, 0, 1}, {4, 0, 1}, {0, -1, 1}, {0, 3, 1}, {0, 0, 97}, {0, 0, MAX}, {MIN, 0, 1},
            {MAX, 0, 1}, {0, MIN, 1}, {0, MAX, 1}, {4, 0, -1}, {0, 3, -1}};
        for (int[] b : bad) {
            c.due("sheet of a wrong one", x.sheet(b[0], b[1], b[2]), BAD);
        }
        c.due("sheet(3, 1, -1)", x.sheet(3, 1, -1), SIZE);
        c.due("sheet(3, 1, MIN)", x.sheet(3, 1, MIN), SIZE);
        c.due("it holds what it held", x.item(3, 2, 95, 1), 1);
        fill(x, 1, 1, 0, 0, 1, 9);
        c.due("a new row", x.sheet(1, 1, 4), 4);
        c.due("with 0 in it", x.coils(1, 1, 0, 1), NOT);
        c.due("a row of another lane", x.sheet(1, 0, 2), 2);
        c.due("of that lane", x.item(1, 0, 1, 5), 1);
        c.due("of the lane ahead", x.item(1, 1, 1, 5), CAST);
        c.due("of that length", x.item(1, 0, 2, 5), INDEX);
        aNewRowHasNoughtInEachItem();
    }

    private void aNewRowHasNoughtInEachItem() {
        int[] twos = new int[96];
        java.util.Arrays.fill(twos, 2);
        for (int i = 0; i <= 92; i++) {
            SlotTurns x = new SlotTurns();
            fill(x, 0, 0, twos);
            x.sheet(0, 0, 96);
            x.item(0, 0, i + 1, 1);
            x.item(0, 0, i + 2, 4);
            x.item(0, 0, i + 3, 7);
            c.due("item " + i, x.coils(0, 0, i, 1), 1);
            coilIs(x, 0, 0, 1, 4, 7, 1);
        }
        for (int i = 1; i <= 93; i++) {
            SlotTurns x = new SlotTurns();
            fill(x, 0, 1, twos);
            x.drop(0);
            x.sheet(0, 1, 96);
            x.item(0, 1, i - 1, 1);
            x.item(0, 1, i + 1, 4);
            x.item(0, 1, i + 2, 7);
            c.due("item " + i + " after drop", x.coils(0, 1, i - 1, 1), 1);
            coilIs(x, 0, 1, 0, 4, 7, 1);
        }
    }

    private void promise23Drop() {
        SlotTurns x = new SlotTurns();
        x.sheet(2, 1, 7);
        x.sheet(3, 1, 0);
        c.due("drop(2)", x.drop(2), 7);
        c.due("drop(2) again", x.drop(2), NULL);
        c.due("drop(3) of an empty row", x.drop(3), 0);
        c.due("drop(3) again", x.drop(3), NULL);
        c.due("item of a dropped one", x.item(2, 1, 0, 1), NULL);
        for (int sheet : new int[] {-1, 4, MIN, MAX}) {
            c.due("drop of a wrong one", x.drop(sheet), BAD);
        }
    }

    private void promise24Item() {
        SlotTurns x = new SlotTurns();
        x.sheet(0, 0, 4);
        x.sheet(1, 1, 4);
        x.sheet(2, 2, 4);
        for (int lane = 0; lane < 3; lane++) {
            c.due("item", x.item(lane, lane, 0, 1), 1);
            c.due("item 3", x.item(lane, lane, 3, MIN), 1);
            c.due("item 4", x.item(lane, lane, 4, 1), INDEX);
            c.due("item -1", x.item(lane, lane, -1, 1), INDEX);
            c.due("item MIN", x.item(lane, lane, MIN, 1), INDEX);
            c.due("item MAX", x.item(lane, lane, MAX, 1), INDEX);
            c.due("of another lane", x.item(lane, (lane + 1) % 3, 0, 1), CAST);
            c.due("CAST ahead of INDEX", x.item(lane, (lane + 2) % 3, 4, 1), CAST);
            c.due("NULL ahead of INDEX", x.item(3, lane, -1, 1), NULL);
        }
        int[][] bad = {{-1, 0}, {4, 0}, {0, -1}, {0, 3}, {3, 3}, {MIN, 0}, {MAX, 0}, {0, MIN}, {0, MAX}};
        for (int[] b : bad) {
            c.due("item of a wrong one", x.item(b[0], b[1], 9, 1), BAD);
        }
        for (int lane = 0; lane < 3; lane++) {
            fill(x, lane, lane, 256, 512 + 7, 0x7fffff01, -256 + 99);
            c.due("the lowest bits", x.coils(lane, lane, 0, 1), lane == 0 ? 1 : NOT);
        }
        coilIs(x, 0, 0, 7, 1, 99, 1);
    }

    private void promise25Coils() {
        for (int lane = 0; lane < 3; lane++) {
            SlotTurns x = new SlotTurns();
            fill(x, lane, lane, 9, 0, 0, 6, 3, 2, 11, 1, 99, 1, 4, 10, 2, 9);
            c.due("coils from item 1", x.coils(lane, lane, 1, 2), 2);
            coilIs(x, 0, 0, 0, 6, 3, 1);
            coilIs(x, 1, 2, 11, 1, 99, 1);
            c.due("one more", x.coils(lane, lane, 9, 1), 3);
            coilIs(x, 2, 1, 4, 10, 2, 1);
            c.due("none", x.coils(lane, lane, 14, 0), 3);
            c.due("none, from beyond", x.coils(lane, lane, 15, 0), INDEX);
            c.due("none, from below", x.coils(lane, lane, -1, 0), INDEX);
            c.due("too far", x.coils(lane, lane, 11, 1), INDEX);
            c.due("far too far", x.coils(lane, lane, MAX, 24), INDEX);
            c.due("too many for the row", x.coils(lane, lane, 0, 4), INDEX);
        }
        SlotTurns x = motor(24, 1, 1);
        x.sheet(0, 0, 96);
        for (int i = 0; i < 24; i++) {
            x.item(0, 0, 4 * i + 1, i);
            x.item(0, 0, 4 * i + 2, (i + 1) % 24);
            x.item(0, 0, 4 * i + 3, 1 + i);
        }
        c.due("24", x.coils(0, 0, 0, 24), 24);
        coilIs(x, 23, 0, 23, 0, 24, 1);
        c.due("one more finds slots full", x.coils(0, 0, 0, 1), NOT);
        c.due("no more", x.coils(0, 0, 0, 0), 24);
    }

    private void promise25CoilsRefused() {
        SlotTurns x = new SlotTurns();
        fill(x, 0, 1, 0, 0, 6, 1, 1, 0, 5, 1, 2, 0, 4, 1);
        c.due("slot 0 has 2 sides of those ahead", x.coils(0, 1, 0, 3), NOT);
        c.due("none came", x.count(0), 0);
        for (int slot = 0; slot < 12; slot++) {
            c.due("no sides came", x.sides(slot), 0);
        }
        c.due("two of them", x.coils(0, 1, 0, 2), 2);
        c.due("the third", x.coils(0, 1, 8, 1), NOT);
        c.due("those ahead stay", x.count(0), 2);
        int[][] wrong = {{3, 1, 2, 1}, {-1, 1, 2, 1}, {0, 12, 2, 1}, {0, -1, 2, 1}, {0, 1, 12, 1}, {0, 1, -1, 1},
            {0, 2, 2, 1}, {0, 1, 2, 0}, {0, 1, 2, 100}, {MIN, 1, 2, 1}, {0, MAX, 2, 1}};
        for (int[] w : wrong) {
            fill(x, 2, 2, w);
            c.due("a coil not as told", x.coils(2, 2, 0, 1), NOT);
        }
        int[][] bad = {{-1, 0, 0}, {4, 0, 0}, {3, -1, 0}, {3, 3, 0}, {3, 0, -1}, {3, 0, 25}, {0, 0, 25},
            {0, 1, MIN}, {0, 1, MAX}, {MIN, 0, 0}, {MAX, 0, 0}, {3, MIN, 0}, {3, MAX, 0}};
        for (int[] b : bad) {
            c.due("coils of a wrong one", x.coils(b[0], b[1], -9, b[2]), BAD);
        }
        c.due("no sheet", x.coils(3, 0, -9, 1), NULL);
        c.due("another lane", x.coils(0, 0, -9, 1), CAST);
        c.due("INDEX ahead of NOT", x.coils(0, 1, 0, 4), INDEX);
        c.due("still two", x.count(0), 2);
    }
}
