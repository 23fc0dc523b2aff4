import java.util.function.ToIntFunction;

/**
 * Where several refusals fit, the first that the call names is the answer; and whatever is refused changes nothing.
 * Each method's cases are told by the refusals that fit, in the document's order.
 */
public final class RefusalsTest extends Bench {
    private RefusalsTest() {
        super("RefusalsTest");
    }

    public static void main(String[] args) {
        RefusalsTest t = new RefusalsTest();
        t.coilRefused();
        t.coilRefusedAmongAllFull();
        t.motorAndMakeRefused();
        t.balancedRefused();
        t.waysRefused();
        t.wayOfRefused();
        t.tourRefused();
        t.mendAndShortsRefused();
        t.sheetRefused();
        t.dropRefused();
        t.itemRefused();
        t.coilsRefusedAheadOfNumbers();
        t.coilsRefusedForNumbers();
        t.coilsRefusedAmongAllFull();
        t.c.end();
    }

    private void refused(String name, Recipe recipe, ToIntFunction<SlotTurns> call, int refusal) {
        refusedChangesNothing(name, recipe, call, refusal);
    }

    // ---- objects to ask

    /** Six coils by hand, the last cut out, of all phases; slot 0 is full; latest answers; rows of each lane. */
    private static SlotTurns some() {
        SlotTurns x = motor(12, 1, 3);
        lay(x, 0, 0, 6, 1, 6, 0, 2);
        lay(x, 1, 2, 8, 3, 3, 9, 3);
        lay(x, 2, 4, 5, 1);
        lay(x, 2, 5, 4, 1);
        x.use(5, false);
        x.ways(1, 1);
        x.tour(0);
        x.shorts(1, 3);
        withRows(x);
        return x;
    }

    /** Sheets 0, 1, 2 hold two coils in a row of the lane of that number; sheet 3 holds nothing. */
    private static void withRows(SlotTurns x) {
        for (int sheet = 0; sheet < 3; sheet++) {
            fill(x, sheet, sheet, 0, 1, 7, 11 + sheet, 1, 10, 11, 99);
        }
    }

    /** 24 coils: all slots of the greatest motor are full. */
    private static SlotTurns allFull() {
        SlotTurns x = made(24, 2, 1, 5);
        cutOut(x, 7, 23);
        x.tour(0);
        x.ways(0, 1);
        x.shorts(0, 5);
        withRows(x);
        return x;
    }

    /** Nine coils in use of phase 0, none of phase 1. */
    private static SlotTurns nine() {
        SlotTurns x = motor(24, 1, 2);
        lay(x, 0, 0, 12, 1, 1, 13, 1);
        x.ways(0, 1);
        x.tour(0);
        for (int slot = 2; slot < 9; slot++) {
            x.coil(0, slot, slot + 12, 1);
        }
        return x;
    }

    // ---- 1 the motor

    private void coilRefused() {
        refused("NOT: in is full", RefusalsTest::some, x -> x.coil(1, 0, 1, 1), NOT);
        refused("NOT: out is full", RefusalsTest::some, x -> x.coil(1, 1, 0, 1), NOT);
        refused("NOT: both are full", RefusalsTest::some, x -> x.coil(1, 0, 6, 1), NOT);
        refused("NOT: full by cut out ones", RefusalsTest::some, x -> x.coil(1, 4, 10, 1), NOT);
        refused("BAD phase, NOT", RefusalsTest::some, x -> x.coil(3, 0, 1, 1), BAD);
        refused("BAD phase below, NOT", RefusalsTest::some, x -> x.coil(-1, 1, 0, 1), BAD);
        refused("BAD in, NOT", RefusalsTest::some, x -> x.coil(0, 12, 0, 1), BAD);
        refused("BAD in below, NOT", RefusalsTest::some, x -> x.coil(0, -1, 0, 1), BAD);
        refused("BAD out, NOT", RefusalsTest::some, x -> x.coil(0, 0, 12, 1), BAD);
        refused("BAD out below, NOT", RefusalsTest::some, x -> x.coil(0, 0, -1, 1), BAD);
        refused("BAD turns, NOT", RefusalsTest::some, x -> x.coil(0, 0, 1, 100), BAD);
        refused("BAD turns below, NOT", RefusalsTest::some, x -> x.coil(0, 0, 1, 0), BAD);
        refused("BAD: in and out are one, NOT", RefusalsTest::some, x -> x.coil(0, 0, 0, 1), BAD);
    }

    private void coilRefusedAmongAllFull() {
        refused("NOT, FULL", RefusalsTest::allFull, x -> x.coil(0, 0, 1, 1), NOT);
        refused("NOT, FULL at the last slots", RefusalsTest::allFull, x -> x.coil(0, 23, 22, 99), NOT);
        refused("BAD phase, NOT, FULL", RefusalsTest::allFull, x -> x.coil(1, 0, 1, 1), BAD);
        refused("BAD in, NOT, FULL", RefusalsTest::allFull, x -> x.coil(0, 24, 1, 1), BAD);
        refused("BAD out, NOT, FULL", RefusalsTest::allFull, x -> x.coil(0, 1, 24, 1), BAD);
        refused("BAD turns, NOT, FULL", RefusalsTest::allFull, x -> x.coil(0, 0, 1, 0), BAD);
        refused("BAD: one slot, NOT, FULL", RefusalsTest::allFull, x -> x.coil(0, 3, 3, 1), BAD);
    }

    private void motorAndMakeRefused() {
        refused("all numbers of a motor are BAD", RefusalsTest::some, x -> x.motor(25, 0, 4), BAD);
        refused("Q alone is BAD", RefusalsTest::some, x -> x.motor(2, 6, 3), BAD);
        refused("P alone is BAD", RefusalsTest::some, x -> x.motor(24, 7, 3), BAD);
        refused("M alone is BAD", RefusalsTest::some, x -> x.motor(24, 6, 0), BAD);
        refused("a span of no slots", RefusalsTest::some, x -> x.make(0), BAD);
        refused("a span all round", RefusalsTest::some, x -> x.make(12), BAD);
        refused("coil and what are BAD", RefusalsTest::some, x -> x.told(6, 5), BAD);
        refused("no coil to use", RefusalsTest::some, x -> x.use(6, true), BAD);
        refused("no coil to cut out", RefusalsTest::some, x -> x.use(-1, false), BAD);
    }

    // ---- 2 waves

    private void balancedRefused() {
        refused("NONE", RefusalsTest::some, x -> x.balanced(1), NONE);
        refused("BAD tone below, NONE", RefusalsTest::some, x -> x.balanced(0), BAD);
        refused("BAD tone beyond, NONE", RefusalsTest::some, x -> x.balanced(48), BAD);
        refused("all numbers of a wave are BAD", RefusalsTest::some, x -> x.wave(3, 48, 4), -100001);
        refused("both numbers of isStill are BAD", RefusalsTest::some, x -> x.isStill(-1, 0), BAD);
    }

    // ---- 3 ways, tours, mends

    private void waysRefused() {
        refused("FULL alone", RefusalsTest::nine, x -> x.ways(0, 1), FULL);
        refused("FULL, NONE: nine do not go in two", RefusalsTest::nine, x -> x.ways(0, 2), FULL);
        refused("FULL, NONE: nine differ", RefusalsTest::nine, x -> x.ways(0, 3), FULL);
        refused("FULL, NONE: nine do not go in four", RefusalsTest::nine, x -> x.ways(0, 4), FULL);
        refused("BAD g below, FULL", RefusalsTest::nine, x -> x.ways(0, 0), BAD);
        refused("BAD g beyond, FULL", RefusalsTest::nine, x -> x.ways(0, 5), BAD);
        refused("NONE: no coil in use", RefusalsTest::nine, x -> x.ways(1, 1), NONE);
        refused("BAD g below, NONE", RefusalsTest::nine, x -> x.ways(1, 0), BAD);
        refused("BAD g beyond, NONE", RefusalsTest::nine, x -> x.ways(1, 5), BAD);
        refused("BAD phase", RefusalsTest::nine, x -> x.ways(2, 1), BAD);
        refused("BAD phase, BAD g", RefusalsTest::nine, x -> x.ways(-1, 5), BAD);
        refused("NONE: they are not alike", RefusalsTest::some, x -> x.ways(0, 2), NONE);
        refused("NONE: two do not go in three", RefusalsTest::some, x -> x.ways(1, 3), NONE);
    }

    private void wayOfRefused() {
        refused("NONE: not among them", RefusalsTest::some, x -> x.wayOf(0), NONE);
        refused("NONE: cut out", RefusalsTest::some, x -> x.wayOf(5), NONE);
        refused("BAD: no such coil, nor was it among them", RefusalsTest::some, x -> x.wayOf(6), BAD);
        SlotTurns x = some();
        c.due("it was among them", x.wayOf(3), 0);
        x.clear();
        c.due("BAD: no such coil now, but it was among them", x.wayOf(3), BAD);
    }

    private void tourRefused() {
        refused("FULL", RefusalsTest::nine, x -> x.tour(0), FULL);
        refused("NONE", RefusalsTest::nine, x -> x.tour(1), NONE);
        refused("BAD", RefusalsTest::nine, x -> x.tour(2), BAD);
        refused("BAD below", RefusalsTest::nine, x -> x.tour(-1), BAD);
        refused("tourAt below", RefusalsTest::nine, x -> x.tourAt(-2), BAD);
        refused("tourAt beyond", RefusalsTest::nine, x -> x.tourAt(2), BAD);
    }

    private void mendAndShortsRefused() {
        refused("no mend", RefusalsTest::some, SlotTurns::mend, NONE);
        refused("NONE: more than all", RefusalsTest::some, x -> x.shorts(0, 4), NONE);
        refused("NONE: no sum", RefusalsTest::some, x -> x.shorts(1, 5), NONE);
        refused("NONE: no coils, the greatest reading", RefusalsTest::nine, x -> x.shorts(1, 9999), NONE);
        refused("BAD reading, NONE", RefusalsTest::some, x -> x.shorts(0, 10000), BAD);
        refused("BAD reading below, NONE", RefusalsTest::some, x -> x.shorts(0, -1), BAD);
        refused("BAD phase", RefusalsTest::some, x -> x.shorts(3, 3), BAD);
        refused("BAD phase, BAD reading", RefusalsTest::some, x -> x.shorts(-1, 10000), BAD);
        refused("picked below", RefusalsTest::some, x -> x.picked(-1), BAD);
        refused("picked beyond", RefusalsTest::some, x -> x.picked(1), BAD);
    }

    // ---- 4 sheets

    private void sheetRefused() {
        for (int sheet = 0; sheet < 4; sheet++) {
            int at = sheet;
            refused("SIZE", RefusalsTest::some, x -> x.sheet(at, 0, -1), SIZE);
            refused("BAD lane, SIZE", RefusalsTest::some, x -> x.sheet(at, 3, -1), BAD);
            refused("BAD lane below, SIZE", RefusalsTest::some, x -> x.sheet(at, -1, MIN), BAD);
            refused("BAD n", RefusalsTest::some, x -> x.sheet(at, 2, 97), BAD);
        }
        refused("BAD sheet, SIZE", RefusalsTest::some, x -> x.sheet(4, 0, -1), BAD);
        refused("BAD sheet below, SIZE", RefusalsTest::some, x -> x.sheet(-1, 0, -1), BAD);
        refused("BAD sheet, BAD lane, SIZE", RefusalsTest::some, x -> x.sheet(4, 3, -1), BAD);
        refused("BAD sheet, BAD n", RefusalsTest::some, x -> x.sheet(4, 0, 97), BAD);
    }

    private void dropRefused() {
        refused("NULL", RefusalsTest::some, x -> x.drop(3), NULL);
        refused("BAD", RefusalsTest::some, x -> x.drop(4), BAD);
        refused("BAD below", RefusalsTest::some, x -> x.drop(-1), BAD);
        refused("NULL of a new object", SlotTurns::new, x -> x.drop(0), NULL);
    }

    private void itemRefused() {
        for (int lane = 0; lane < 3; lane++) {
            int of = lane;
            int other = (lane + 1) % 3;
            int third = (lane + 2) % 3;
            refused("INDEX beyond", RefusalsTest::some, x -> x.item(of, of, 8, 1), INDEX);
            refused("INDEX below", RefusalsTest::some, x -> x.item(of, of, -1, 1), INDEX);
            refused("CAST", RefusalsTest::some, x -> x.item(of, other, 0, 1), CAST);
            refused("CAST to the third", RefusalsTest::some, x -> x.item(of, third, 7, 1), CAST);
            refused("CAST, INDEX beyond", RefusalsTest::some, x -> x.item(of, other, 8, 1), CAST);
            refused("CAST, INDEX below", RefusalsTest::some, x -> x.item(of, third, -1, 1), CAST);
            refused("NULL", RefusalsTest::some, x -> x.item(3, of, 0, 1), NULL);
            refused("NULL, INDEX beyond", RefusalsTest::some, x -> x.item(3, of, 96, 1), NULL);
            refused("NULL, INDEX below", RefusalsTest::some, x -> x.item(3, of, -1, 1), NULL);
            refused("BAD sheet, INDEX", RefusalsTest::some, x -> x.item(4, of, -1, 1), BAD);
            refused("BAD sheet below, INDEX", RefusalsTest::some, x -> x.item(-1, of, 8, 1), BAD);
        }
        for (int lane : new int[] {-1, 3}) {
            refused("BAD lane, NULL", RefusalsTest::some, x -> x.item(3, lane, 0, 1), BAD);
            refused("BAD lane, CAST", RefusalsTest::some, x -> x.item(0, lane, 0, 1), BAD);
            refused("BAD lane, CAST, INDEX", RefusalsTest::some, x -> x.item(0, lane, 8, 1), BAD);
            refused("BAD sheet, BAD lane", RefusalsTest::some, x -> x.item(4, lane, 0, 1), BAD);
        }
    }

    private void coilsRefusedAheadOfNumbers() {
        for (int lane = 0; lane < 3; lane++) {
            int of = lane;
            int other = (lane + 1) % 3;
            refused("INDEX beyond", RefusalsTest::some, x -> x.coils(of, of, 5, 1), INDEX);
            refused("INDEX below", RefusalsTest::some, x -> x.coils(of, of, -1, 1), INDEX);
            refused("INDEX below of none", RefusalsTest::some, x -> x.coils(of, of, -1, 0), INDEX);
            refused("INDEX beyond of none", RefusalsTest::some, x -> x.coils(of, of, 9, 0), INDEX);
            refused("INDEX far beyond", RefusalsTest::some, x -> x.coils(of, of, MAX, 24), INDEX);
            refused("INDEX far below", RefusalsTest::some, x -> x.coils(of, of, MIN, 24), INDEX);
            refused("CAST", RefusalsTest::some, x -> x.coils(of, other, 0, 1), CAST);
            refused("CAST of none", RefusalsTest::some, x -> x.coils(of, other, 0, 0), CAST);
            refused("CAST, INDEX", RefusalsTest::some, x -> x.coils(of, other, 5, 1), CAST);
            refused("CAST, INDEX below", RefusalsTest::some, x -> x.coils(of, other, -1, 0), CAST);
            refused("NULL", RefusalsTest::some, x -> x.coils(3, of, 0, 1), NULL);
            refused("NULL of none", RefusalsTest::some, x -> x.coils(3, of, 0, 0), NULL);
            refused("NULL, INDEX", RefusalsTest::some, x -> x.coils(3, of, -1, 1), NULL);
            refused("BAD n, INDEX", RefusalsTest::some, x -> x.coils(of, of, 0, 25), BAD);
            refused("BAD n below, INDEX", RefusalsTest::some, x -> x.coils(of, of, -1, -1), BAD);
            refused("BAD n, CAST", RefusalsTest::some, x -> x.coils(of, other, 0, 25), BAD);
            refused("BAD n, NULL", RefusalsTest::some, x -> x.coils(3, of, 0, -1), BAD);
            refused("BAD sheet, INDEX", RefusalsTest::some, x -> x.coils(4, of, -1, 1), BAD);
        }
        for (int lane : new int[] {-1, 3}) {
            refused("BAD lane, NULL", RefusalsTest::some, x -> x.coils(3, lane, 0, 1), BAD);
            refused("BAD lane, CAST", RefusalsTest::some, x -> x.coils(0, lane, 0, 0), BAD);
            refused("BAD lane, CAST, INDEX", RefusalsTest::some, x -> x.coils(0, lane, 9, 1), BAD);
        }
    }

    /** Each number of a coil, of the first and of the last of the coils that would come, is not as told. */
    private void coilsRefusedForNumbers() {
        int[][] wrong = {{0, -1}, {0, 3}, {1, -1}, {1, 12}, {2, -1}, {2, 12}, {3, 0}, {3, 100}, {3, -1}, {0, MIN},
            {1, MAX}, {2, MIN}, {3, MAX}};
        for (int lane = 0; lane < 3; lane++) {
            int of = lane;
            for (int[] w : wrong) {
                // The lowest 8 bits of the least int are 0, and 0 is a phase or a slot.
                if (of == 0 && w[1] == MIN) {
                    continue;
                }
                for (int first : new int[] {0, 4}) {
                    Recipe recipe = () -> with(of, first + w[0], w[1]);
                    refused("NOT: number " + w[0] + " is " + w[1], recipe, x -> x.coils(of, of, 0, 2), NOT);
                    refused("INDEX, NOT", recipe, x -> x.coils(of, of, 0, 3), INDEX);
                    refused("CAST, NOT", recipe, x -> x.coils(of, (of + 1) % 3, 0, 2), CAST);
                    refused("BAD n, NOT", recipe, x -> x.coils(of, of, 0, 25), BAD);
                }
            }
            refused("NOT: in and out are one", () -> with(of, 2, 1), x -> x.coils(of, of, 0, 1), NOT);
            refused("NOT: in is full", () -> with(of, 1, 0), x -> x.coils(of, of, 0, 1), NOT);
            refused("NOT: out is full", () -> with(of, 6, 0), x -> x.coils(of, of, 4, 1), NOT);
            refused("NOT: full by cut out ones", () -> with(of, 6, 5), x -> x.coils(of, of, 0, 2), NOT);
            refused("NOT: full by one there and one ahead", () -> withOneAndOneAhead(of), x -> x.coils(of, of, 0, 2),
                    NOT);
            c.due("the first of them alone", withOneAndOneAhead(of).coils(of, of, 0, 1), 8);
            c.due("the second of them alone", withOneAndOneAhead(of).coils(of, of, 4, 1), 8);
        }
    }

    private static SlotTurns with(int lane, int item, int v) {
        SlotTurns x = some();
        x.item(lane, lane, item, v);
        return x;
    }

    /** Slot 7 has one side, and the row's first coil goes out there, too: its second one comes too late. */
    private static SlotTurns withOneAndOneAhead(int lane) {
        SlotTurns x = with(lane, 5, 7);
        x.coil(1, 7, 11, 1);
        return x;
    }

    private void coilsRefusedAmongAllFull() {
        for (int lane = 0; lane < 3; lane++) {
            int of = lane;
            refused("NOT, FULL", RefusalsTest::allFull, x -> x.coils(of, of, 0, 1), NOT);
            refused("NOT, FULL of two", RefusalsTest::allFull, x -> x.coils(of, of, 0, 2), NOT);
            refused("INDEX, NOT, FULL", RefusalsTest::allFull, x -> x.coils(of, of, 0, 3), INDEX);
            refused("CAST, NOT, FULL", RefusalsTest::allFull, x -> x.coils(of, (of + 2) % 3, 0, 1), CAST);
            refused("NULL, NOT, FULL", RefusalsTest::allFull, x -> x.coils(3, of, 0, 1), NULL);
            refused("BAD, NOT, FULL", RefusalsTest::allFull, x -> x.coils(of, of, 0, 25), BAD);
            c.due("none come among all full", allFull().coils(of, of, 0, 0), 24);
        }
    }
}
