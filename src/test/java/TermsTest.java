/**
 * The sentences of the document's Terms, one by one, at their boundaries: the least and the greatest, nothing there
 * and all full, what goes round. The values are reckoned by hand.
 */
public final class TermsTest extends Bench {
    private TermsTest() {
        super("TermsTest");
    }

    public static void main(String[] args) {
        TermsTest t = new TermsTest();
        t.atFirst();
        t.coilsAsTheyCome();
        t.coilsAreInUseAtFirst();
        t.aSlotHasTwoSides();
        t.sheetsHoldNothingAtFirst();
        t.aRowHasNoughtAtFirst();
        t.rootsGoRound();
        t.tonesGoRound();
        t.waveOfCoilsInUse();
        t.waveAtItsGreatest();
        t.balancedByEachTurn();
        t.balancedByTheLeastTurn();
        t.balancedByTurnsThatGoRound();
        t.balancedOfOnePhase();
        t.balancedOfTwoPhases();
        t.balancedOfThreePhases();
        t.balancedWithNothingThere();
        t.madeRound();
        t.madeOfTheLeastMotor();
        t.madeOfTheGreatestMotor();
        t.madeWithBeltsCutDown();
        t.waysAsManyInEach();
        t.waysTheFirst();
        t.waysForToneP();
        t.waysOfEightAtMost();
        t.tourBeginsWithTheFirst();
        t.tourTheLesserWay();
        t.tourOfSevenAtMost();
        t.tourAtItsGreatest();
        t.tourOfLikeOnesTheFirst();
        t.mendWithNothing();
        t.mendTheFewest();
        t.mendTheFirst();
        t.mendTakesACoilOnce();
        t.mendAmongAllFull();
        t.mendIsNotStill();
        t.shortsTheFewest();
        t.shortsTheFirst();
        t.shortsTakeACoilOnce();
        t.shortsAtTheirGreatest();
        t.answersUpToTheLastCall();
        t.c.end();
    }

    // ---- a motor, coils, slots, sheets

    private void atFirst() {
        SlotTurns x = new SlotTurns();
        int[] want = {0, 0, 12, 1, 3, 4, 12, 1};
        for (int what = 0; what < want.length; what++) {
            c.due("count(" + what + ") at first", x.count(what), want[what]);
        }
        sidesAre(x, 0, 0, 0, 0, 0, 0, 0, 0, 0, 0, 0, 0, BAD);
        c.due("phase 2 is there at first", x.isStill(2, 1), 1);
        c.due("phase 3 is not", x.isStill(3, 1), BAD);
        int[] polynomial = {1, 0, -1, 0, 1, -1001};
        for (int i = 0; i < polynomial.length; i++) {
            c.due("cyclotomic(" + i + ") at first", x.cyclotomic(i), polynomial[i]);
        }
    }

    private void coilsAsTheyCome() {
        SlotTurns x = motor(24, 1, 3);
        for (int i = 0; i < 24; i++) {
            c.due("the next number", x.coil(i % 3, (7 * i) % 24, (7 * i + 7) % 24, 1 + 4 * i), i);
        }
        for (int i = 0; i < 24; i++) {
            coilIs(x, i, i % 3, (7 * i) % 24, (7 * i + 7) % 24, 1 + 4 * i, 1);
        }
        c.due("no coil 24", x.coil(0, 0, 1, 1), NOT);
        c.due("24 coils", x.count(0), 24);
        c.due("coil 24 is not there", x.told(24, 0), BAD);
    }

    private void coilsAreInUseAtFirst() {
        SlotTurns x = motor(24, 1, 1);
        for (int i = 0; i < 24; i++) {
            x.coil(0, i, (i + 1) % 24, 1);
            c.due("in use at first", x.told(i, 4), 1);
        }
        cutOut(x, 0, 23);
        c.due("all cut out", x.count(1), 0);
        c.due("they are there", x.count(0), 24);
        x.clear();
        x.coil(0, 0, 1, 1);
        c.due("a new coil 0 is in use", x.told(0, 4), 1);
        cutOut(x, 0, 0);
        x.make(3);
        c.due("made ones are in use", x.count(1), 24);
        cutOut(x, 0, 23);
        x.motor(24, 1, 1);
        fill(x, 0, 0, 0, 4, 5, 6);
        x.coils(0, 0, 0, 1);
        c.due("one from a sheet is in use", x.told(0, 4), 1);
    }

    private void aSlotHasTwoSides() {
        int[][] pairs = {{0, 1, 0, 2}, {1, 0, 2, 0}, {0, 1, 2, 0}, {1, 0, 0, 2}};
        for (int[] of : pairs) {
            SlotTurns x = motor(6, 1, 1);
            lay(x, 0, of[0], of[1], 1);
            sidesAre(x, 1, 1, 0, 0, 0, 0);
            lay(x, 0, of[2], of[3], 1);
            sidesAre(x, 2, 1, 1, 0, 0, 0);
            c.due("a third in", x.coil(0, 0, 3, 1), NOT);
            c.due("a third out", x.coil(0, 3, 0, 1), NOT);
            cutOut(x, 0, 1);
            sidesAre(x, 2, 1, 1, 0, 0, 0);
            c.due("a third in beside cut out ones", x.coil(0, 0, 3, 1), NOT);
            c.due("a third out beside cut out ones", x.coil(0, 3, 0, 1), NOT);
            c.due("slots 1 and 2 have place", x.coil(0, 1, 2, 1), 2);
            sidesAre(x, 2, 2, 2, 0, 0, 0);
            x.clear();
            c.due("when all went", x.coil(0, 0, 3, 1), 0);
            sidesAre(x, 1, 0, 0, 1, 0, 0);
        }
    }

    private void sheetsHoldNothingAtFirst() {
        SlotTurns x = new SlotTurns();
        for (int sheet = 0; sheet < 4; sheet++) {
            for (int lane = 0; lane < 3; lane++) {
                c.due("an item of nothing", x.item(sheet, lane, 0, 1), NULL);
                c.due("coils from nothing", x.coils(sheet, lane, 0, 1), NULL);
                c.due("no coils from nothing", x.coils(sheet, lane, 0, 0), NULL);
            }
            c.due("nothing to drop", x.drop(sheet), NULL);
        }
    }

    private void aRowHasNoughtAtFirst() {
        for (int lane = 0; lane < 3; lane++) {
            SlotTurns x = motor(24, 1, 1);
            x.sheet(0, lane, 96);
            for (int coil = 0; coil < 24; coil++) {
                x.item(0, lane, 4 * coil + 2, 1 + coil % 12);
                x.item(0, lane, 4 * coil + 3, 1);
            }
            c.due("slot 0 of each: two come", x.coils(0, lane, 0, 2), 2);
            c.due("a third does not", x.coils(0, lane, 8, 1), NOT);
            coilIs(x, 1, 0, 0, 2, 1, 1);
            for (int coil = 2; coil < 24; coil++) {
                x.clear();
                c.due("one of them", x.coils(0, lane, 4 * coil, 1), 1);
                c.due("phase", x.told(0, 0), 0);
                c.due("in", x.told(0, 1), 0);
                c.due("out", x.told(0, 2), 1 + coil % 12);
            }
        }
    }

    // ---- waves

    /** A coil from slot j to slot 0 has z to the power j less 1: at the degree, and beyond, the row goes down. */
    private void rootsGoRound() {
        int[][] known = {
            {3, 1, -1, 1}, {3, 2, -2, -1}, {4, 1, -1, 1}, {4, 2, -2, 0}, {4, 3, -1, -1}, {6, 2, -2, 1}, {6, 3, -2, 0},
            {6, 5, 0, -1}, {5, 4, -2, -1, -1, -1}, {8, 4, -2, 0, 0, 0}, {8, 7, -1, 0, 0, -1},
            {9, 6, -2, 0, 0, -1, 0, 0}, {9, 8, -1, 0, -1, 0, 0, -1}, {12, 3, -1, 0, 0, 1}, {12, 4, -2, 0, 1, 0},
            {12, 6, -2, 0, 0, 0}, {12, 11, -1, 1, 0, -1}, {15, 8, -2, 1, 0, -1, 1, -1, 0, 1},
            {24, 7, -1, 0, 0, 0, 0, 0, 0, 1}, {24, 8, -2, 0, 0, 0, 1, 0, 0, 0}, {24, 12, -2, 0, 0, 0, 0, 0, 0, 0},
            {24, 23, -1, 0, 0, 1, 0, 0, 0, -1}};
        for (int[] k : known) {
            SlotTurns x = motor(k[0], 1, 1);
            x.coil(0, k[1], 0, 1);
            waveIs(x, 0, 1, java.util.Arrays.copyOfRange(k, 2, k.length));
        }
        SlotTurns x = motor(23, 1, 1);
        x.coil(0, 22, 0, 3);
        for (int i = 0; i < 22; i++) {
            c.due("of 23, c(" + i + ")", x.wave(0, 1, i), i == 0 ? -6 : -3);
        }
        c.due("of 23, c(22) is none", x.wave(0, 1, 22), -100001);
    }

    private void tonesGoRound() {
        for (int q : new int[] {3, 7, 12, 16, 23, 24}) {
            SlotTurns x = motor(q, 1, 1);
            lay(x, 0, 0, 1, 1, 2, 1, 50, q - 1, 0, 99);
            int degree = x.count(5);
            for (int tone : new int[] {1, q - 1, 47 - q}) {
                for (int i = 0; i < degree; i++) {
                    c.due("tone " + tone + " and " + q + " more", x.wave(0, tone + q, i), x.wave(0, tone, i));
                }
            }
            for (int tone = q; tone <= 47; tone += q) {
                c.due("tone " + tone + " of " + q, x.isStill(0, tone), 1);
                c.due("its c(0)", x.wave(0, tone, 0), 0);
            }
            c.due("the tone ahead", x.isStill(0, q - 1), 0);
            c.due("the tone behind", x.isStill(0, q + 1), 0);
        }
        SlotTurns x = motor(24, 1, 1);
        x.coil(0, 1, 0, 1);
        waveIs(x, 0, 47, -1, 0, 0, 1, 0, 0, 0, -1);
        waveIs(x, 0, 1, -1, 1, 0, 0, 0, 0, 0, 0);
        x.motor(12, 1, 1);
        x.coil(0, 11, 10, 1);
        waveIs(x, 0, 47, -0, 1, -1, 0);
    }

    private void waveOfCoilsInUse() {
        SlotTurns x = motor(4, 1, 2);
        lay(x, 0, 0, 2, 5);
        lay(x, 1, 1, 3, 7);
        lay(x, 0, 3, 1, 1);
        waveIs(x, 0, 1, 10, -2);
        waveIs(x, 1, 1, 0, 14);
        x.use(0, false);
        waveIs(x, 0, 1, 0, -2);
        waveIs(x, 1, 1, 0, 14);
        x.use(2, false);
        waveIs(x, 0, 1, 0, 0);
        c.due("all of phase 0 cut out", x.isStill(0, 1), 1);
        c.due("phase 1 is not", x.isStill(1, 1), 0);
        x.use(0, true);
        waveIs(x, 0, 1, 10, 0);
        x.use(1, false);
        waveIs(x, 1, 1, 0, 0);
    }

    private void waveAtItsGreatest() {
        SlotTurns x = motor(24, 1, 1);
        SlotTurns y = motor(24, 1, 1);
        for (int i = 0; i < 24; i++) {
            int even = i / 2 * 2;
            x.coil(0, even, even + 1, 99);
            y.coil(0, even + 1, even, 99);
        }
        waveIs(x, 0, 12, 4752, 0, 0, 0, 0, 0, 0, 0);
        waveIs(y, 0, 12, -4752, 0, 0, 0, 0, 0, 0, 0);
        waveIs(x, 0, 36, 4752, 0, 0, 0, 0, 0, 0, 0);
        waveIs(x, 0, 6, 0, 0, 0, 0, 0, 0, 0, 0);
        c.due("of tone 12 it is not still", x.isStill(0, 12), 0);
        c.due("of tone 6 it is", x.isStill(0, 6), 1);
    }

    // ---- balanced

    /** Phases f by one coil each, from slot f s to the one behind it: for tone 1 no other turn fits. */
    private static SlotTurns turnedBy(int q, int m, int s) {
        SlotTurns x = motor(q, 1, m);
        for (int f = 0; f < m; f++) {
            x.coil(f, f * s % q, (f * s + 1) % q, 7);
        }
        return x;
    }

    private void balancedByEachTurn() {
        for (int q = 3; q <= 24; q++) {
            for (int s = 0; s < q; s++) {
                c.due("three phases of " + q + " by " + s, turnedBy(q, 3, s).balanced(1),
                        3 * s == q || 3 * s == 2 * q ? s : NONE);
                c.due("two phases of " + q + " by " + s, turnedBy(q, 2, s).balanced(1), 2 * s == q ? s : NONE);
                c.due("one phase of " + q, turnedBy(q, 1, s).balanced(1), 0);
            }
        }
        c.due("the greatest turn that can be, Q - 1", turnedBy(3, 3, 2).balanced(1), 2);
    }

    private void balancedByTheLeastTurn() {
        SlotTurns x = turnedBy(24, 3, 8);
        c.due("8", x.balanced(1), 8);
        c.due("for tone 2 it is 8 or 20", x.balanced(2), 8);
        c.due("for tone 4 it is 2, 8, 14 or 20", x.balanced(4), 2);
        c.due("for tone 8 it is 2, 5, 8 ..", x.balanced(8), 2);
        c.due("for tone 5", x.balanced(5), 8);
        c.due("for tone 6 not together 0", x.balanced(6), NONE);
        c.due("for tone 24 all are still", x.balanced(24), 0);
        x = turnedBy(12, 3, 8);
        c.due("for tone 2 it is 2 or 8", x.balanced(2), 2);
        c.due("for tone 4 it is 2, 5, 8 or 11", x.balanced(4), 2);
        x = turnedBy(12, 2, 6);
        c.due("two phases, tone 1", x.balanced(1), 6);
        c.due("two phases, tone 3: 2, 6 or 10", x.balanced(3), 2);
        c.due("two phases, tone 2: not together 0", x.balanced(2), NONE);
    }

    private void balancedByTurnsThatGoRound() {
        for (int tone = 1; tone <= 47; tone++) {
            c.due("tone " + tone + " of 3", turnedBy(3, 3, 2).balanced(tone), tone % 3 == 0 ? 0 : 2);
            c.due("tone " + tone + " of 3, by 1", turnedBy(3, 3, 1).balanced(tone), tone % 3 == 0 ? 0 : 1);
        }
        c.due("tone 47 of 24 is as 23", turnedBy(24, 3, 16).balanced(47), 16);
        c.due("tone 25 of 24 is as 1", turnedBy(24, 3, 16).balanced(25), 16);
        c.due("tone 24 of 24 is as 0", turnedBy(24, 3, 16).balanced(24), 0);
        SlotTurns x = motor(12, 1, 3);
        lay(x, 0, 8, 2, 1);
        lay(x, 1, 0, 6, 1);
        lay(x, 2, 4, 10, 1);
        c.due("from slot 8 on, by 4", x.balanced(1), 4);
    }

    private void balancedOfOnePhase() {
        SlotTurns x = motor(5, 1, 1);
        lay(x, 0, 0, 1, 99);
        for (int tone = 1; tone <= 47; tone++) {
            c.due("one phase alone need not be 0", x.balanced(tone), 0);
        }
    }

    private void balancedOfTwoPhases() {
        SlotTurns x = motor(24, 1, 2);
        lay(x, 0, 0, 1, 5);
        c.due("phase 1 is still, phase 0 is not", x.balanced(1), NONE);
        lay(x, 1, 12, 13, 4);
        c.due("turned, but less", x.balanced(1), NONE);
        x.clear();
        lay(x, 0, 0, 1, 5);
        lay(x, 1, 1, 0, 5);
        c.due("turned round", x.balanced(1), 12);
        x.clear();
        lay(x, 1, 1, 0, 5);
        c.due("phase 0 is still, phase 1 is not", x.balanced(1), NONE);
        x.motor(7, 1, 2);
        lay(x, 0, 0, 1, 5);
        lay(x, 1, 1, 0, 5);
        c.due("0 together, but no turn is half of 7", x.balanced(1), NONE);
    }

    private void balancedOfThreePhases() {
        SlotTurns x = turnedBy(12, 3, 4);
        x.use(1, false);
        c.due("without phase 1", x.balanced(1), NONE);
        x.use(1, true);
        x.use(0, false);
        c.due("without phase 0", x.balanced(1), NONE);
        x.use(0, true);
        c.due("with all", x.balanced(1), 4);
        x.motor(12, 1, 3);
        lay(x, 0, 0, 1, 1);
        lay(x, 1, 4, 5, 1);
        lay(x, 2, 4, 5, 1);
        c.due("phase 2 as phase 1", x.balanced(1), NONE);
        x.clear();
        lay(x, 0, 0, 1, 1);
        lay(x, 1, 4, 5, 1);
        lay(x, 2, 8, 9, 2);
        c.due("phase 2 is twice", x.balanced(1), NONE);
        x.clear();
        lay(x, 0, 0, 2, 1);
        lay(x, 1, 2, 4, 1);
        lay(x, 2, 4, 0, 1);
        c.due("0 together, by 2 of 12 no third", x.balanced(1), NONE);
        c.due("for tone 2", x.balanced(2), 2);
    }

    private void balancedWithNothingThere() {
        for (int m = 1; m <= 3; m++) {
            SlotTurns x = motor(9, 2, m);
            c.due("no coils", x.balanced(1), 0);
            c.due("no coils, tone 47", x.balanced(47), 0);
            x.make(4);
            cutOut(x, 0, 8);
            c.due("all cut out", x.balanced(2), 0);
        }
    }

    // ---- made

    private void madeRound() {
        SlotTurns x = made(5, 1, 1, 4);
        madeIs(x, 4, new int[] {0, 0, 0, 0, 0}, new int[] {0, 0, 0, 1, 1});
        coilIs(x, 0, 0, 0, 4, 1, 1);
        coilIs(x, 1, 0, 1, 0, 1, 1);
        coilIs(x, 4, 0, 3, 4, 1, 1);
        x.make(1);
        coilIs(x, 0, 0, 0, 1, 1, 1);
        coilIs(x, 3, 0, 4, 3, 1, 1);
        coilIs(x, 4, 0, 0, 4, 1, 1);
        sidesAre(x, 2, 2, 2, 2, 2);
    }

    private void madeOfTheLeastMotor() {
        for (int b = 1; b <= 2; b++) {
            madeIs(made(3, 1, 1, b), b, new int[] {0, 0, 0}, new int[] {0, 0, 1});
            madeIs(made(3, 1, 2, b), b, new int[] {0, 1, 0}, new int[] {0, 0, 1});
            madeIs(made(3, 1, 3, b), b, new int[] {0, 1, 2}, new int[] {0, 0, 0});
            madeIs(made(3, 6, 1, b), b, new int[] {0, 0, 0}, new int[] {0, 0, 0});
            madeIs(made(3, 6, 2, b), b, new int[] {0, 0, 0}, new int[] {0, 0, 0});
            madeIs(made(3, 5, 2, b), b, new int[] {0, 0, 1}, new int[] {0, 1, 0});
            madeIs(made(3, 5, 3, b), b, new int[] {0, 2, 1}, new int[] {0, 0, 0});
        }
    }

    private void madeOfTheGreatestMotor() {
        for (int b : new int[] {1, 12, 22, 23}) {
            SlotTurns one = made(24, 6, 1, b);
            SlotTurns two = made(24, 6, 2, b);
            SlotTurns three = made(24, 6, 3, b);
            int[] phasesOfThree = {0, 2, 0, 2};
            for (int i = 0; i < 24; i += 23 - b % 2) {
                int other = (i + b) % 24;
                coilIs(one, i, 0, i % 4 < 2 ? i : other, i % 4 < 2 ? other : i, 1, 1);
                coilIs(two, i, i % 2, i % 4 < 2 ? i : other, i % 4 < 2 ? other : i, 1, 1);
                boolean round = i % 4 == 1 || i % 4 == 2;
                coilIs(three, i, phasesOfThree[i % 4], round ? other : i, round ? i : other, 1, 1);
            }
            c.due("24 made", two.count(0), 24);
        }
        int[] phases = {0, 0, 0, 0, 2, 2, 2, 2, 1, 1, 1, 1, 0, 0, 0, 0, 2, 2, 2, 2, 1, 1, 1, 1};
        int[] round = {0, 0, 0, 0, 1, 1, 1, 1, 0, 0, 0, 0, 1, 1, 1, 1, 0, 0, 0, 0, 1, 1, 1, 1};
        madeIs(made(24, 1, 3, 23), 23, phases, round);
    }

    private void madeWithBeltsCutDown() {
        madeIs(made(7, 1, 3, 3), 3, new int[] {0, 0, 2, 1, 0, 2, 1}, new int[] {0, 0, 1, 0, 1, 0, 1});
        madeIs(made(7, 1, 2, 3), 3, new int[] {0, 0, 1, 1, 0, 0, 1}, new int[] {0, 0, 0, 0, 1, 1, 1});
        madeIs(made(7, 1, 1, 3), 3, new int[] {0, 0, 0, 0, 0, 0, 0}, new int[] {0, 0, 0, 0, 1, 1, 1});
        madeIs(made(5, 2, 2, 2), 2, new int[] {0, 1, 1, 0, 0}, new int[] {0, 0, 1, 0, 1});
        madeIs(made(5, 2, 3, 1), 1, new int[] {0, 1, 2, 2, 0}, new int[] {0, 0, 0, 1, 1});
    }

    // ---- ways

    /** Coils of phase 0 that have all the same wave for tone 6, but for their turns: 12 of 24 slots, 6 poles. */
    private static SlotTurns alike(int... turns) {
        SlotTurns x = motor(24, 6, 1);
        for (int i = 0; i < turns.length; i++) {
            int slot = 4 * i % 24;
            x.coil(0, slot, slot + 1, turns[i]);
        }
        return x;
    }

    private void waysAsManyInEach() {
        SlotTurns x = alike(3, 1, 1, 1);
        c.due("3 and 1 1 1 are the same, but not as many", x.ways(0, 2), NONE);
        waysAre(x, NONE, NONE, NONE, NONE);
        x = alike(2, 1, 1);
        c.due("2 and 1 1: 3 coils do not go in two", x.ways(0, 2), NONE);
        c.due("in three they differ", x.ways(0, 3), NONE);
        c.due("in four they do not go", x.ways(0, 4), NONE);
        c.due("in one", x.ways(0, 1), 1);
        waysAre(x, 0, 0, 0);
        for (int n = 1; n <= 8; n++) {
            int[] turns = new int[n];
            java.util.Arrays.fill(turns, 99);
            for (int g = 1; g <= 4; g++) {
                x = alike(turns);
                c.due(n + " alike ones in " + g, x.ways(0, g), n % g == 0 ? 1 : NONE);
                for (int i = 0; i < n; i++) {
                    c.due("wayOf(" + i + ") of " + n + " in " + g, x.wayOf(i), n % g == 0 ? i / (n / g) : NONE);
                }
            }
        }
    }

    private void waysTheFirst() {
        SlotTurns x = alike(1, 2, 3, 4, 5, 6, 7, 8);
        c.due("two of four", x.ways(0, 2), 1);
        waysAre(x, 0, 0, 1, 1, 1, 1, 0, 0);
        c.due("four of two", x.ways(0, 4), 1);
        waysAre(x, 0, 1, 2, 3, 3, 2, 1, 0);
        x = alike(1, 2, 3, 4, 5, 6);
        c.due("three of two", x.ways(0, 3), 1);
        waysAre(x, 0, 1, 2, 2, 1, 0);
        c.due("21 turns do not go in two", x.ways(0, 2), NONE);
        waysAre(x, 0, 1, 2, 2, 1, 0);
        x = alike(5, 5, 6, 6);
        c.due("like ones apart, the lesser way first", x.ways(0, 2), 1);
        waysAre(x, 0, 1, 0, 1);
        x = alike(1, 1, 1, 2);
        c.due("only the last differs", x.ways(0, 2), NONE);
        c.due("only the last differs, four", x.ways(0, 4), NONE);
        x = alike(1, 1, 2, 1);
        c.due("the last way but one differs", x.ways(0, 4), NONE);
    }

    private void waysForToneP() {
        SlotTurns x = motor(24, 6, 2);
        lay(x, 1, 0, 1, 1, 4, 5, 1);
        c.due("alike for tone 6", x.ways(1, 2), 1);
        waysAre(x, 0, 1);
        x.motor(24, 5, 2);
        lay(x, 1, 0, 1, 1, 4, 5, 1);
        c.due("not for tone 5", x.ways(1, 2), NONE);
        x.motor(24, 1, 1);
        lay(x, 0, 0, 1, 1, 4, 5, 1);
        c.due("not for tone 1", x.ways(0, 2), NONE);
        lay(x, 0, 0, 1, 2, 4, 5, 2);
        c.due("two of the one and two of the other", x.ways(0, 2), NONE);
        x.clear();
        lay(x, 0, 0, 1, 1, 4, 5, 1, 0, 1, 1, 4, 5, 1);
        c.due("one of each in each", x.ways(0, 2), 1);
        waysAre(x, 0, 0, 1, 1);
    }

    private void waysOfEightAtMost() {
        SlotTurns x = alike(1, 1, 1, 1, 1, 1, 1, 1, 1);
        c.due("nine", x.ways(0, 1), FULL);
        c.due("nine in three", x.ways(0, 3), FULL);
        x.use(8, false);
        c.due("eight and one cut out", x.ways(0, 1), 1);
        waysAre(x, 0, 0, 0, 0, 0, 0, 0, 0, NONE);
        x = made(24, 6, 1, 1);
        cutOut(x, 0, 14);
        c.due("the last nine of 24", x.ways(0, 1), FULL);
        cutOut(x, 15, 15);
        c.due("the last eight of 24", x.ways(0, 1), 1);
        c.due("wayOf(15)", x.wayOf(15), NONE);
        c.due("wayOf(16)", x.wayOf(16), 0);
        c.due("wayOf(23)", x.wayOf(23), 0);
        x = motor(24, 1, 2);
        for (int i = 0; i < 8; i++) {
            x.coil(0, i, i + 8, 1);
            x.coil(1, 23 - i, 15 - i, 1);
        }
        c.due("eight of one phase, sixteen in all", x.ways(0, 1), 1);
        c.due("eight of the other", x.ways(1, 1), 1);
    }

    // ---- tours

    private void tourBeginsWithTheFirst() {
        SlotTurns x = motor(12, 1, 2);
        lay(x, 1, 0, 5, 1);
        lay(x, 0, 6, 8, 1, 0, 2, 1, 3, 5, 1);
        c.due("the first of them is coil 1", x.tour(0), 4 + 1 + 1);
        tourIs(x, 1, 2, 3);
        x.use(1, false);
        c.due("then it is coil 2", x.tour(0), 1 + 5);
        tourIs(x, 2, 3);
        x.use(2, false);
        c.due("then coil 3 alone", x.tour(0), 2);
        tourIs(x, 3);
        x.use(3, false);
        c.due("then none", x.tour(0), NONE);
        tourIs(x, 3);
    }

    private void tourTheLesserWay() {
        int[][] alone = {{12, 0, 6, 6}, {12, 0, 7, 5}, {12, 7, 0, 5}, {12, 11, 0, 1}, {12, 0, 11, 1}, {3, 0, 2, 1},
            {3, 2, 1, 1}, {5, 0, 2, 2}, {5, 0, 3, 2}, {5, 4, 1, 2}, {23, 0, 11, 11}, {23, 0, 12, 11}, {24, 23, 11, 12},
            {24, 0, 13, 11}, {4, 1, 3, 2}, {4, 3, 0, 1}};
        for (int[] a : alone) {
            SlotTurns x = motor(a[0], 1, 1);
            x.coil(0, a[1], a[2], 7);
            c.due("from " + a[2] + " to " + a[1] + " of " + a[0], x.tour(0), a[3]);
            c.due("copper of it", x.copper(), 7 * a[3]);
        }
        SlotTurns x = motor(12, 1, 1);
        lay(x, 0, 0, 6, 1, 6, 0, 1);
        c.due("each out in the other's in", x.tour(0), 0);
        tourIs(x, 0, 1);
        x.clear();
        lay(x, 0, 11, 10, 1, 1, 0, 1);
        c.due("round on both sides", x.tour(0), 3 + 1);
    }

    private void tourOfSevenAtMost() {
        SlotTurns x = motor(24, 1, 1);
        lay(x, 0, 0, 1, 1, 9, 10, 1, 3, 4, 1, 18, 19, 1, 6, 7, 1, 15, 16, 1, 12, 13, 1);
        c.due("seven in the order of slots", x.tour(0), 6 * 2 + 5);
        tourIs(x, 0, 2, 4, 1, 6, 5, 3);
        lay(x, 0, 21, 22, 1);
        c.due("eight", x.tour(0), FULL);
        tourIs(x, 0, 2, 4, 1, 6, 5, 3);
        x.use(0, false);
        c.due("seven of eight", x.tour(0), 6 * 2 + 5);
        tourIs(x, 1, 6, 5, 3, 7, 2, 4);
        x = made(24, 1, 1, 1);
        cutOut(x, 0, 15);
        c.due("the last eight of 24", x.tour(0), FULL);
        cutOut(x, 16, 16);
        c.due("the last seven of 24", x.tour(0), 7);
        tourIs(x, 17, 23, 22, 21, 20, 19, 18);
        x = motor(24, 1, 2);
        for (int i = 0; i < 7; i++) {
            lay(x, 0, i, i + 1, 1);
            lay(x, 1, 22 - i, 21 - i, 1);
        }
        c.due("seven of phase 1, fourteen in all", x.tour(1), 7);
        tourIs(x, 1, 3, 5, 7, 9, 11, 13);
        c.due("seven of phase 0", x.tour(0), 7);
        tourIs(x, 0, 2, 4, 6, 8, 10, 12);
    }

    /** From each out to each in it is half round less what the two slots differ by. */
    private void tourAtItsGreatest() {
        SlotTurns x = motor(24, 1, 1);
        for (int i = 0; i < 7; i++) {
            x.coil(0, i, i + 12, 1);
        }
        c.due("seven half round, 84 less 24", x.tour(0), 60);
        tourIs(x, 0, 3, 4, 1, 5, 2, 6);
        x.clear();
        lay(x, 0, 0, 12, 1, 0, 12, 1);
        c.due("two half round", x.tour(0), 24);
        tourIs(x, 0, 1);
    }

    private void tourOfLikeOnesTheFirst() {
        SlotTurns x = motor(12, 1, 1);
        lay(x, 0, 3, 4, 1, 0, 1, 1, 0, 1, 1);
        c.due("two like ones behind another", x.tour(0), 4 + 1 + 2);
        tourIs(x, 0, 1, 2);
        x.clear();
        lay(x, 0, 0, 1, 1, 0, 1, 1, 4, 5, 1, 4, 5, 1);
        c.due("pairs of like ones", x.tour(0), 1 + 3 + 1 + 5);
        tourIs(x, 0, 1, 2, 3);
        x.clear();
        lay(x, 0, 0, 1, 1, 4, 5, 1, 0, 1, 1, 4, 5, 1);
        c.due("pairs of like ones, in turn", x.tour(0), 1 + 3 + 1 + 5);
        tourIs(x, 0, 1, 3, 2);
    }

    // ---- mends

    private void mendWithNothing() {
        for (int m = 1; m <= 3; m++) {
            SlotTurns x = motor(12, 1, m);
            c.due("no coils", x.mend(), NONE);
            x.make(5);
            cutOut(x, 0, 11);
            c.due("all cut out", x.mend(), NONE);
            c.due("picked none", x.picked(0), BAD);
        }
    }

    private void mendTheFewest() {
        SlotTurns x = made(12, 1, 3, 5);
        c.due("a made motor is balanced", x.mend(), 0);
        pickedAre(x);
        x.use(0, false);
        c.due("coil 0 is broken", x.mend(), 2);
        pickedAre(x, 2, 4);
        c.due("2 is still in use", x.told(2, 4), 1);
        c.due("4 is still in use", x.told(4, 4), 1);
        x.use(4, false);
        c.due("and 4 is cut out", x.mend(), 1);
        pickedAre(x, 2);
        x.use(2, false);
        c.due("and 2", x.mend(), 0);
        pickedAre(x);
        x.use(1, false);
        x.use(3, false);
        c.due("two like ones of two phases are broken", x.mend(), 1);
        pickedAre(x, 5);
        x.use(3, true);
        x.use(10, false);
        c.due("two unlike ones of two phases are broken", x.mend(), NONE);
        pickedAre(x, 5);
    }

    private void mendTheFirst() {
        SlotTurns x = motor(12, 1, 3);
        lay(x, 0, 1, 2, 1);
        for (int f = 0; f < 3; f++) {
            x.coil(f, 4 * f, (4 * f + 6) % 12, 1);
        }
        c.due("the first coil is one too many", x.mend(), 1);
        pickedAre(x, 0);
        lay(x, 2, 3, 5, 1);
        c.due("the first and the last are two too many", x.mend(), 2);
        pickedAre(x, 0, 4);
        lay(x, 1, 7, 11, 1);
        c.due("three too many", x.mend(), NONE);
        x.motor(12, 1, 3);
        lay(x, 0, 0, 6, 1, 0, 6, 1);
        lay(x, 1, 4, 10, 1, 4, 10, 1);
        lay(x, 2, 8, 2, 1);
        c.due("of like ones the first of each phase", x.mend(), 2);
        pickedAre(x, 0, 2);
        x.use(2, false);
        c.due("of two like ones the first", x.mend(), 1);
        pickedAre(x, 0);
        x.use(0, false);
        x.use(2, true);
        c.due("of two like ones of phase 1 the first", x.mend(), 1);
        pickedAre(x, 2);
    }

    /** Two phases opposite one another in all slots, the last pair otherwise. */
    private static SlotTurns pairs(int lastPhase, int lastTurns) {
        SlotTurns x = motor(24, 1, 2);
        for (int i = 0; i < 11; i++) {
            x.coil(0, i, i + 12, 1);
            x.coil(1, i + 12, i, 1);
        }
        x.coil(0, 11, 23, 1);
        x.coil(lastPhase, 23, 11, lastTurns);
        return x;
    }

    private void mendTakesACoilOnce() {
        SlotTurns x = motor(12, 1, 2);
        lay(x, 0, 0, 6, 5, 0, 6, 6);
        lay(x, 1, 4, 2, 2);
        waveIs(x, 0, 1, 22, 0, 0, 0);
        waveIs(x, 1, 1, -2, 0, 0, 0);
        c.due("10 twice less would do, but 10 and 12 leave none", x.mend(), NONE);
        x.clear();
        lay(x, 0, 0, 6, 5, 0, 6, 1);
        lay(x, 1, 4, 2, 2);
        c.due("10 less", x.mend(), 1);
        pickedAre(x, 0);
    }

    private void mendAmongAllFull() {
        SlotTurns x = pairs(1, 1);
        c.due("24 coils, balanced", x.mend(), 0);
        x.use(22, false);
        c.due("beside the last but one the last", x.mend(), 1);
        pickedAre(x, 23);
        x.use(22, true);
        x.use(23, false);
        c.due("beside the last the last but one", x.mend(), 1);
        pickedAre(x, 22);
        x = pairs(1, 9);
        c.due("the last two of 24", x.mend(), 2);
        pickedAre(x, 22, 23);
        x.use(22, false);
        c.due("the last of 24", x.mend(), 1);
        pickedAre(x, 23);
        x = pairs(0, 1);
        c.due("the last two are 0 together", x.mend(), 0);
        pickedAre(x);
    }

    private void mendIsNotStill() {
        SlotTurns x = motor(12, 1, 2);
        lay(x, 0, 0, 6, 1, 6, 0, 1);
        lay(x, 1, 2, 8, 1, 8, 2, 1);
        c.due("both still: balanced", x.balanced(1), 0);
        c.due("one of each cut out, they are not opposite", x.mend(), NONE);
        x.motor(12, 2, 2);
        lay(x, 0, 0, 3, 1, 3, 0, 1);
        lay(x, 1, 9, 6, 1, 6, 9, 1);
        c.due("for tone 2 9 to 6 is as 3 to 0: one of each", x.mend(), 2);
        pickedAre(x, 0, 2);
        x.motor(12, 1, 1);
        lay(x, 0, 3, 4, 2);
        c.due("one coil of one phase: nothing to mend", x.mend(), 0);
        x.use(0, false);
        c.due("none in use of one phase", x.mend(), NONE);
    }

    // ---- shorts

    private void shortsTheFewest() {
        SlotTurns x = motor(24, 1, 1);
        lay(x, 0, 0, 1, 1, 2, 3, 2, 4, 5, 3, 6, 7, 6, 8, 9, 50);
        int[][] known = {{62, 0}, {61, 1, 0}, {60, 1, 1}, {59, 1, 2}, {58, 2, 0, 2}, {57, 2, 1, 2}, {56, 1, 3},
            {55, 2, 0, 3}, {54, 2, 1, 3}, {53, 2, 2, 3}, {52, 3, 0, 2, 3}, {51, 3, 1, 2, 3}, {50, -4}, {12, 1, 4},
            {11, 2, 0, 4}, {6, 2, 3, 4}, {3, 3, 2, 3, 4}, {4, 3, 1, 3, 4}, {2, -4}, {0, -4}, {63, -4}, {9999, -4}};
        for (int[] k : known) {
            c.due("shorts(0, " + k[0] + ")", x.shorts(0, k[0]), k[1]);
            if (k[1] >= 0) {
                pickedAre(x, java.util.Arrays.copyOfRange(k, 2, k.length));
            }
        }
    }

    private void shortsTheFirst() {
        SlotTurns x = motor(24, 1, 2);
        for (int i = 0; i < 10; i++) {
            x.coil(i % 2, i, i + 10, 4);
        }
        c.due("one of like ones", x.shorts(1, 16), 1);
        pickedAre(x, 1);
        c.due("two of like ones", x.shorts(1, 12), 2);
        pickedAre(x, 1, 3);
        c.due("three of like ones", x.shorts(1, 8), 3);
        pickedAre(x, 1, 3, 5);
        c.due("four would be too many", x.shorts(1, 4), NONE);
        c.due("five would be too many", x.shorts(1, 0), NONE);
        pickedAre(x, 1, 3, 5);
        x.use(3, false);
        c.due("beside one cut out", x.shorts(1, 4), 3);
        pickedAre(x, 1, 5, 7);
        c.due("phase 0 has none cut out", x.shorts(0, 8), 3);
        pickedAre(x, 0, 2, 4);
    }

    private void shortsAtTheirGreatest() {
        SlotTurns x = motor(24, 1, 1);
        for (int i = 0; i < 24; i++) {
            x.coil(0, i, (i + 1) % 24, 99);
        }
        c.due("all of 24", x.shorts(0, 2376), 0);
        c.due("one more than all", x.shorts(0, 2377), NONE);
        c.due("one less than all", x.shorts(0, 2375), NONE);
        c.due("three less", x.shorts(0, 2376 - 297), 3);
        pickedAre(x, 0, 1, 2);
        c.due("four less", x.shorts(0, 2376 - 396), NONE);
        cutOut(x, 0, 20);
        c.due("the last three, nothing read", x.shorts(0, 0), 3);
        pickedAre(x, 21, 22, 23);
        cutOut(x, 21, 23);
        c.due("none in use, nothing read", x.shorts(0, 0), 0);
        pickedAre(x);
        c.due("none in use, one read", x.shorts(0, 1), NONE);
    }

    private void shortsTakeACoilOnce() {
        SlotTurns x = motor(12, 1, 1);
        lay(x, 0, 0, 6, 5, 0, 6, 20);
        c.due("5 twice less", x.shorts(0, 15), NONE);
        c.due("5 thrice less", x.shorts(0, 10), NONE);
        c.due("5 less", x.shorts(0, 20), 1);
        pickedAre(x, 0);
    }

    // ---- the head

    private void answersUpToTheLastCall() {
        SlotTurns x = new SlotTurns();
        for (int call = 0; call < 256; call += 4) {
            c.due("make", x.make(5), 12);
            c.due("mend", x.mend(), 0);
            c.due("tour", x.tour(0), 20);
            c.due("coil", x.coil(0, 0, 1, 1), NOT);
        }
        c.due("sheet", x.sheet(0, 0, 96), 96);
        for (int call = 257; call < 510; call++) {
            c.due("item", x.item(0, 0, call % 96, call), 1);
        }
        c.due("call 511", x.balanced(1), 4);
        c.due("call 512", x.drop(0), 96);
    }
}
