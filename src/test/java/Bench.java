import java.util.function.ToIntFunction;

/** What the tests by hand share: laying coils, filling sheets, and looking at whole objects. */
abstract class Bench {
    static final int BAD = -1, NOT = -2, FULL = -3, NONE = -4, NULL = -11, CAST = -12, INDEX = -13, SIZE = -14;
    static final int MIN = Integer.MIN_VALUE, MAX = Integer.MAX_VALUE;

    final Checks c;

    Bench(String name) {
        c = new Checks(name);
    }

    // ---- objects made ready

    static SlotTurns motor(int q, int p, int m) {
        SlotTurns x = new SlotTurns();
        x.motor(q, p, m);
        return x;
    }

    static SlotTurns made(int q, int p, int m, int span) {
        SlotTurns x = motor(q, p, m);
        x.make(span);
        return x;
    }

    /** Lays coils of one phase after another: in, out, turns of each. */
    static void lay(SlotTurns x, int phase, int... numbers) {
        for (int i = 0; i < numbers.length; i += 3) {
            x.coil(phase, numbers[i], numbers[i + 1], numbers[i + 2]);
        }
    }

    static void fill(SlotTurns x, int sheet, int lane, int... numbers) {
        x.sheet(sheet, lane, numbers.length);
        for (int i = 0; i < numbers.length; i++) {
            x.item(sheet, lane, i, numbers[i]);
        }
    }

    static void cutOut(SlotTurns x, int first, int last) {
        for (int coil = first; coil <= last; coil++) {
            x.use(coil, false);
        }
    }

    // ---- looks at what is due

    void coilIs(SlotTurns x, int coil, int phase, int in, int out, int turns, int used) {
        int[] want = {phase, in, out, turns, used};
        for (int what = 0; what < 5; what++) {
            c.due("told(" + coil + ", " + what + ")", x.told(coil, what), want[what]);
        }
    }

    /** The coils of a made motor: the phase of each, and whether it is turned round. */
    void madeIs(SlotTurns x, int span, int[] phases, int[] turnedRound) {
        int q = phases.length;
        c.due("count(0)", x.count(0), q);
        for (int i = 0; i < q; i++) {
            int other = (i + span) % q;
            boolean round = turnedRound[i] == 1;
            coilIs(x, i, phases[i], round ? other : i, round ? i : other, 1, 1);
        }
    }

    void waveIs(SlotTurns x, int phase, int tone, int... want) {
        c.due("the degree", x.count(5), want.length);
        for (int i = 0; i < want.length; i++) {
            c.due("wave(" + phase + ", " + tone + ", " + i + ")", x.wave(phase, tone, i), want[i]);
        }
    }

    void sidesAre(SlotTurns x, int... want) {
        for (int slot = 0; slot < want.length; slot++) {
            c.due("sides(" + slot + ")", x.sides(slot), want[slot]);
        }
    }

    void waysAre(SlotTurns x, int... want) {
        for (int i = 0; i < want.length; i++) {
            c.due("wayOf(" + i + ")", x.wayOf(i), want[i]);
        }
    }

    void tourIs(SlotTurns x, int... want) {
        c.due("tourAt(-1)", x.tourAt(-1), want.length);
        for (int i = 0; i < want.length; i++) {
            c.due("tourAt(" + i + ")", x.tourAt(i), want[i]);
        }
        c.due("tourAt beyond", x.tourAt(want.length), BAD);
    }

    void pickedAre(SlotTurns x, int... want) {
        for (int i = 0; i < want.length; i++) {
            c.due("picked(" + i + ")", x.picked(i), want[i]);
        }
        c.due("picked beyond", x.picked(want.length), BAD);
    }

    // ---- looks at whole objects

    /** A call that is refused, and the object that it is asked of twice: once with it, once without. */
    void refusedChangesNothing(String name, Recipe recipe, ToIntFunction<SlotTurns> call, int refusal) {
        SlotTurns x = recipe.make();
        c.due(name, call.applyAsInt(x), refusal);
        c.holds(name + " changes nothing", lookAt(x).equals(lookAt(recipe.make())));
    }

    interface Recipe {
        SlotTurns make();
    }

    /**
     * All that can be told of an object, in some 300 calls at most. The rows in sheets can be told only by coils
     * that come from them, so at the end the coils go and the sheets are dropped.
     */
    static String lookAt(SlotTurns x) {
        StringBuilder all = new StringBuilder();
        for (int what = 0; what < 8; what++) {
            all.append(x.count(what)).append(' ');
        }
        for (int slot = 0; slot < x.count(2); slot++) {
            all.append(x.sides(slot)).append(' ');
        }
        int coils = x.count(0);
        for (int coil = 0; coil < coils; coil++) {
            for (int what = 0; what < 5; what++) {
                all.append(x.told(coil, what)).append(' ');
            }
            all.append(x.wayOf(coil)).append(' ');
        }
        for (int i = -1; i < 8; i++) {
            all.append(x.tourAt(i)).append(' ');
        }
        for (int i = 0; i < 4; i++) {
            all.append(x.picked(i)).append(' ');
        }
        x.clear();
        for (int sheet = 0; sheet < 4; sheet++) {
            lookAtSheet(x, sheet, all);
        }
        return all.toString();
    }

    private static void lookAtSheet(SlotTurns x, int sheet, StringBuilder all) {
        for (int lane = 0; lane < 3; lane++) {
            all.append(x.coils(sheet, lane, 0, 0)).append(' ');
            for (int from = 0; from < 8 && x.coils(sheet, lane, from, 1) == 1; from += 4) {
                for (int what = 0; what < 4; what++) {
                    all.append(x.told(0, what)).append(' ');
                }
                x.clear();
            }
        }
        all.append(x.drop(sheet)).append(' ');
    }
}
