import java.util.TreeSet;

/**
 * Every number that a call takes: the least and the greatest that is allowed are taken, as are those between; the
 * next one beyond on each side, and the farthest, are refused, and what is refused changes nothing. The motors are
 * the least, the greatest and some between, as the ranges hang on them.
 */
public final class RangesTest extends Bench {
    private static final int BAD_COEFFICIENT = -1001, BAD_WAVE = -100001;

    private int q;
    private int p;
    private int m;
    private int degree;

    private RangesTest() {
        super("RangesTest");
    }

    public static void main(String[] args) {
        RangesTest t = new RangesTest();
        int[][] motors = {{3, 1, 1, 2}, {3, 6, 3, 2}, {7, 3, 2, 6}, {12, 1, 3, 4}, {23, 6, 1, 22}, {24, 6, 2, 8},
            {24, 1, 3, 8}};
        for (int[] motor : motors) {
            t.q = motor[0];
            t.p = motor[1];
            t.m = motor[2];
            t.degree = motor[3];
            t.motorCalls();
            t.coilCalls();
            t.waveCalls();
            t.findingCalls();
            t.latestCalls();
            t.sheetCalls();
        }
        t.beyondBothSidesOfARow();
        t.c.end();
    }

    /**
     * A made motor of which three coils of phase 0 at most are left in use, with a latest parting, tour and pick,
     * and with a row of each lane; sheet 3 holds nothing. Each row tells two coils.
     */
    private SlotTurns busy() {
        SlotTurns x = made(q, p, m, 1);
        int left = 0;
        for (int coil = 0; coil < q; coil++) {
            boolean stays = x.told(coil, 0) == 0 && left < 3;
            x.use(coil, stays);
            left += stays ? 1 : 0;
        }
        c.holds("some are left", left > 0);
        c.due("ways of the busy one", x.ways(0, 1), 1);
        c.holds("tour of the busy one", x.tour(0) >= 0);
        c.due("shorts of the busy one", x.shorts(0, 0), left);
        for (int sheet = 0; sheet < 3; sheet++) {
            fill(x, sheet, sheet, 0, 0, 2, 5 + sheet, m - 1, 2, 1, 99);
        }
        return x;
    }

    /** A motor of these numbers without coils. */
    private SlotTurns bare() {
        return motor(q, p, m);
    }

    private interface Call {
        int of(SlotTurns x, int number);
    }

    private void range(String name, int least, int greatest, Recipe recipe, Call call) {
        range(name, least, greatest, BAD, BAD, recipe, call);
    }

    private void range(String name, int least, int greatest, int below, int above, Recipe recipe, Call call) {
        TreeSet<Integer> inside = new TreeSet<>();
        for (int number = least; number <= greatest && inside.size() < 100; number++) {
            inside.add(number);
        }
        if (least <= greatest) {
            inside.add(greatest);
        }
        for (int number : inside) {
            int got = call.of(recipe.make(), number);
            c.holds(told(name, number) + " is allowed, answered " + got, got != below && got != above);
        }
        for (int number : new int[] {least - 1, least - 2, MIN}) {
            refusedChangesNothing(told(name, number), recipe, x -> call.of(x, number), below);
        }
        for (int number : new int[] {greatest + 1, greatest + 2, MAX}) {
            refusedChangesNothing(told(name, number), recipe, x -> call.of(x, number), above);
        }
    }

    private String told(String name, int number) {
        return name + " with " + number + " (motor " + q + ", " + p + ", " + m + ")";
    }

    // ---- 1 the motor

    private void motorCalls() {
        range("motor q", 3, 24, this::busy, (x, v) -> x.motor(v, 1, 1));
        range("motor p", 1, 6, this::busy, (x, v) -> x.motor(3, v, 1));
        range("motor m", 1, 3, this::busy, (x, v) -> x.motor(3, 1, v));
        range("make", 1, q - 1, this::busy, (x, v) -> x.make(v));
        range("told coil", 0, q - 1, this::busy, (x, v) -> x.told(v, 3));
        range("told what", 0, 4, this::busy, (x, v) -> x.told(0, v));
        range("sides", 0, q - 1, this::busy, (x, v) -> x.sides(v));
        range("count", 0, 7, this::busy, (x, v) -> x.count(v));
        range("use on", 0, q - 1, this::busy, (x, v) -> x.use(v, true));
        range("use off", 0, q - 1, this::busy, (x, v) -> x.use(v, false));
    }

    private void coilCalls() {
        range("coil phase", 0, m - 1, this::bare, (x, v) -> x.coil(v, 0, 1, 1));
        range("coil in, out the last", 0, q - 2, q - 1);
        range("coil in, out the first", 1, q - 1, 0);
        range("coil turns", 1, 99, this::bare, (x, v) -> x.coil(0, 0, 1, v));
        range("coil phase, all full", 0, m - 1, this::busy, (x, v) -> x.coil(v, 0, 1, 1));
        range("coil turns, all full", 1, 99, this::busy, (x, v) -> x.coil(0, 0, 1, v));
    }

    /** The slots of a coil, in and out, beside another that is given: they are those, and not that one. */
    private void range(String name, int least, int greatest, int other) {
        range(name, least, greatest, this::bare, (x, v) -> x.coil(0, v, other, 1));
        range(name + ", turned round", least, greatest, this::bare, (x, v) -> x.coil(0, other, v, 1));
        for (int slot = 0; slot < q; slot++) {
            int same = slot;
            refusedChangesNothing(told("coil in and out", slot), this::bare, x -> x.coil(0, same, same, 1), BAD);
        }
    }

    // ---- 2 waves

    private void waveCalls() {
        range("cyclotomic", 0, degree, BAD_COEFFICIENT, BAD_COEFFICIENT, this::busy, (x, v) -> x.cyclotomic(v));
        range("wave phase", 0, m - 1, BAD_WAVE, BAD_WAVE, this::busy, (x, v) -> x.wave(v, 1, 0));
        range("wave tone", 1, 47, BAD_WAVE, BAD_WAVE, this::busy, (x, v) -> x.wave(m - 1, v, degree - 1));
        range("wave i", 0, degree - 1, BAD_WAVE, BAD_WAVE, this::busy, (x, v) -> x.wave(0, 47, v));
        range("isStill phase", 0, m - 1, this::busy, (x, v) -> x.isStill(v, 1));
        range("isStill tone", 1, 47, this::busy, (x, v) -> x.isStill(m - 1, v));
        range("balanced", 1, 47, this::busy, (x, v) -> x.balanced(v));
    }

    // ---- 3 ways, tours, mends

    private void findingCalls() {
        range("ways phase", 0, m - 1, this::busy, (x, v) -> x.ways(v, 1));
        range("ways g", 1, 4, this::busy, (x, v) -> x.ways(m - 1, v));
        range("ways phase, no coils", 0, m - 1, this::bare, (x, v) -> x.ways(v, 1));
        range("tour", 0, m - 1, this::busy, (x, v) -> x.tour(v));
        range("tour, no coils", 0, m - 1, this::bare, (x, v) -> x.tour(v));
        range("shorts phase", 0, m - 1, this::busy, (x, v) -> x.shorts(v, 0));
        range("shorts reading", 0, 9999, this::busy, (x, v) -> x.shorts(m - 1, v));
        range("shorts phase, no coils", 0, m - 1, this::bare, (x, v) -> x.shorts(v, 0));
    }

    private void latestCalls() {
        int many = busy().count(1);
        range("wayOf", 0, q - 1, this::busy, (x, v) -> x.wayOf(v));
        range("wayOf, no coils", 0, -1, this::bare, (x, v) -> x.wayOf(v));
        range("tourAt", -1, many - 1, this::busy, (x, v) -> x.tourAt(v));
        range("tourAt, no tour", -1, -1, this::bare, (x, v) -> x.tourAt(v));
        range("picked", 0, many - 1, this::busy, (x, v) -> x.picked(v));
        range("picked, no pick", 0, -1, this::bare, (x, v) -> x.picked(v));
    }

    // ---- 4 sheets

    private void sheetCalls() {
        range("sheet sheet", 0, 3, this::busy, (x, v) -> x.sheet(v, 0, 0));
        range("sheet lane", 0, 2, this::busy, (x, v) -> x.sheet(1, v, 96));
        for (int sheet = 0; sheet < 4; sheet++) {
            int at = sheet;
            range("sheet n", 0, 96, SIZE, BAD, this::busy, (x, v) -> x.sheet(at, 1, v));
        }
        range("drop", 0, 3, this::busy, (x, v) -> x.drop(v));
        for (int lane = 0; lane < 3; lane++) {
            itemCalls(lane);
            coilsCalls(lane);
        }
    }

    private void itemCalls(int lane) {
        range("item sheet", 0, 3, this::busy, (x, v) -> x.item(v, lane, 0, 1));
        range("item lane", 0, 2, this::busy, (x, v) -> x.item(lane, v, 0, 1));
        range("item lane, no row", 0, 2, this::busy, (x, v) -> x.item(3, v, 0, 1));
        range("item i", 0, 7, INDEX, INDEX, this::busy, (x, v) -> x.item(lane, lane, v, 1));
    }

    private void coilsCalls(int lane) {
        range("coils sheet", 0, 3, this::busy, (x, v) -> x.coils(v, lane, 0, 0));
        range("coils lane", 0, 2, this::busy, (x, v) -> x.coils(lane, v, 0, 0));
        range("coils lane, no row", 0, 2, this::busy, (x, v) -> x.coils(3, v, 0, 0));
        range("coils n", 0, 24, this::busy, (x, v) -> x.coils(lane, lane, 0, v));
        range("coils n, no row", 0, 24, this::busy, (x, v) -> x.coils(3, lane, 0, v));
        for (int n = 0; n <= 3; n++) {
            int many = n;
            range("coils i for " + n, 0, Math.max(-1, 8 - 4 * n), INDEX, INDEX, this::busy,
                    (x, v) -> x.coils(lane, lane, v, many));
        }
    }

    /** Rows of 0, 1, 95 and 96 items: items and coils of them up to the last item, and not one beyond. */
    private void beyondBothSidesOfARow() {
        q = 24;
        p = 1;
        m = 1;
        for (int n : new int[] {0, 1, 3, 4, 95, 96}) {
            for (int lane = 0; lane < 3; lane++) {
                int of = lane;
                Recipe row = () -> {
                    SlotTurns x = bare();
                    x.sheet(2, of, n);
                    return x;
                };
                range("item i of " + n, 0, n - 1, INDEX, INDEX, row, (x, v) -> x.item(2, of, v, 7));
                range("coils i of " + n, 0, n, INDEX, INDEX, row, (x, v) -> x.coils(2, of, v, 0));
                range("coils i of " + n, 0, Math.max(-1, n - 4), INDEX, INDEX, row, (x, v) -> x.coils(2, of, v, 1));
                int fit = n / 4;
                for (int many = fit + 1; many <= 24; many++) {
                    int over = many;
                    refusedChangesNothing("coils n of " + n, row, x -> x.coils(2, of, 0, over), INDEX);
                }
                c.holds("coils n of " + n, row.make().coils(2, of, 0, fit) != INDEX);
            }
        }
    }
}
