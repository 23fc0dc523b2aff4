/**
 * Coils of a motor's wire in its slots: their waves as exact sums of roots of one, and what follows from
 * them. What each call promises is told in ../shared/DOC.md; the words here are the document's.
 *
 * All rows are made with the object and used again: no call makes an object.
 */
public final class SlotTurns {
    public static final int BAD = -1, NOT = -2, FULL = -3, NONE = -4, NULL = -11, CAST = -12, INDEX = -13, SIZE = -14;

    private static final int LEAST_SLOTS = 3;
    private static final int MOST_SLOTS = 24;
    private static final int MOST_POLES = 6;
    private static final int MOST_PHASES = 3;
    private static final int MOST_COILS = 24;
    private static final int MOST_TURNS = 99;
    private static final int MOST_SIDES = 2;
    private static final int MOST_TONE = 47;
    private static final int MOST_WAYS = 4;
    private static final int MOST_READING = 9999;
    private static final int NUMBERS_OF_A_COIL = 4;

    // Answers that may be negative have refusals far below every number that can be told.
    private static final int BAD_COEFFICIENT = BAD - 1000;
    private static final int BAD_WAVE = BAD - 100000;

    private final Motor machine;
    private final Roots roots;
    private final CoilList list;
    private final Waves waves;
    private final WayFinder wayFinder;
    private final TourFinder tourFinder;
    private final Picker picker;
    private final Sheets rows;

    public SlotTurns() {
        machine = new Motor();
        roots = new Roots();
        roots.raiseTo(machine.slots);
        list = new CoilList(machine);
        waves = new Waves(machine, roots, list);
        wayFinder = new WayFinder(machine, roots, list);
        tourFinder = new TourFinder(list);
        picker = new Picker(machine, list, waves);
        rows = new Sheets();
    }

    // ---- 1 the motor

    public int motor(int q, int p, int m) {
        if (!isWithin(q, LEAST_SLOTS, MOST_SLOTS) || !isWithin(p, 1, MOST_POLES) || !isWithin(m, 1, MOST_PHASES)) {
            return BAD;
        }
        list.keepFirst(0);
        machine.slots = q;
        machine.poles = p;
        machine.phases = m;
        roots.raiseTo(q);
        return 1;
    }

    public int coil(int phase, int in, int out, int turns) {
        return list.lay(phase, in, out, turns);
    }

    public int use(int coil, boolean is) {
        if (!list.has(coil)) {
            return BAD;
        }
        int was = oneIf(list.used[coil]);
        list.used[coil] = is;
        return was;
    }

    public int clear() {
        int gone = list.size;
        list.keepFirst(0);
        return gone;
    }

    public int make(int b) {
        if (!isWithin(b, 1, machine.slots - 1)) {
            return BAD;
        }
        list.keepFirst(0);
        for (int i = 0; i < machine.slots; i++) {
            layByRule(i, b);
        }
        return list.size;
    }

    private void layByRule(int slot, int span) {
        int belt = machine.beltOf(slot);
        int other = (slot + span) % machine.slots;
        if (machine.isTurnedRound(belt)) {
            list.lay(machine.phaseOf(belt), other, slot, 1);
        } else {
            list.lay(machine.phaseOf(belt), slot, other, 1);
        }
    }

    public int told(int coil, int what) {
        if (!list.has(coil)) {
            return BAD;
        }
        switch (what) {
            case 0: return list.phase[coil];
            case 1: return list.in[coil];
            case 2: return list.out[coil];
            case 3: return list.turns[coil];
            case 4: return oneIf(list.used[coil]);
            default: return BAD;
        }
    }

    public int sides(int slot) {
        return machine.hasSlot(slot) ? list.sidesIn[slot] : BAD;
    }

    public int count(int what) {
        switch (what) {
            case 0: return list.size;
            case 1: return list.inUse();
            case 2: return machine.slots;
            case 3: return machine.poles;
            case 4: return machine.phases;
            case 5: return roots.degree;
            case 6: return leastCommonMultiple(machine.slots, 2 * machine.poles);
            case 7: return oneIf(machine.isEven());
            default: return BAD;
        }
    }

    // ---- 2 waves

    public int cyclotomic(int i) {
        return isWithin(i, 0, roots.degree) ? roots.polynomial[i] : BAD_COEFFICIENT;
    }

    public int wave(int phase, int tone, int i) {
        if (!machine.hasPhase(phase) || !isTone(tone) || !isWithin(i, 0, roots.degree - 1)) {
            return BAD_WAVE;
        }
        waves.gather(tone);
        return waves.sums[phase][i];
    }

    public int isStill(int phase, int tone) {
        if (!machine.hasPhase(phase) || !isTone(tone)) {
            return BAD;
        }
        waves.gather(tone);
        return oneIf(waves.isNought(phase));
    }

    public int balanced(int tone) {
        if (!isTone(tone)) {
            return BAD;
        }
        waves.gather(tone);
        return waves.leastTurn();
    }

    // ---- 3 ways, tours, mends

    public int ways(int phase, int g) {
        if (!machine.hasPhase(phase) || !isWithin(g, 1, MOST_WAYS)) {
            return BAD;
        }
        return wayFinder.part(phase, g);
    }

    public int wayOf(int coil) {
        return list.has(coil) ? wayFinder.latest[coil] : BAD;
    }

    public int copper() {
        int sum = 0;
        for (int coil = 0; coil < list.size; coil++) {
            if (list.used[coil]) {
                sum += list.turns[coil] * machine.between(list.in[coil], list.out[coil]);
            }
        }
        return sum;
    }

    public int tour(int phase) {
        return machine.hasPhase(phase) ? tourFinder.shortest(phase) : BAD;
    }

    public int tourAt(int i) {
        if (i == -1) {
            return tourFinder.latestSize;
        }
        return isWithin(i, 0, tourFinder.latestSize - 1) ? tourFinder.latest[i] : BAD;
    }

    public int mend() {
        return picker.fewestToMend();
    }

    public int shorts(int phase, int reading) {
        if (!machine.hasPhase(phase) || !isWithin(reading, 0, MOST_READING)) {
            return BAD;
        }
        return picker.fewestShort(phase, reading);
    }

    public int picked(int i) {
        return isWithin(i, 0, picker.latestSize - 1) ? picker.latest[i] : BAD;
    }

    // ---- 4 sheets

    public int sheet(int sheet, int lane, int n) {
        if (!rows.hasPlace(sheet, lane) || n > Sheets.MOST_ITEMS) {
            return BAD;
        }
        if (n < 0) {
            return SIZE;
        }
        rows.renew(sheet, lane, n);
        return n;
    }

    public int drop(int sheet) {
        if (!isWithin(sheet, 0, Sheets.MOST_SHEETS - 1)) {
            return BAD;
        }
        return rows.isMissing(sheet) ? NULL : rows.empty(sheet);
    }

    public int item(int sheet, int lane, int i, int v) {
        if (!rows.hasPlace(sheet, lane)) {
            return BAD;
        }
        int refusal = rows.refusalOf(sheet, lane, i, 1);
        if (refusal != Sheets.FINE) {
            return refusal;
        }
        rows.put(sheet, i, v);
        return 1;
    }

    public int coils(int sheet, int lane, int i, int n) {
        if (!rows.hasPlace(sheet, lane) || !isWithin(n, 0, MOST_COILS)) {
            return BAD;
        }
        int refusal = rows.refusalOf(sheet, lane, i, NUMBERS_OF_A_COIL * n);
        if (refusal != Sheets.FINE) {
            return refusal;
        }
        return layAll(rows.items[sheet], i, n);
    }

    /** Lays n coils told by a row's numbers, all or none: at the first refused one, those ahead go again. */
    private int layAll(int[] numbers, int from, int n) {
        int before = list.size;
        for (int coil = 0; coil < n; coil++) {
            int at = from + NUMBERS_OF_A_COIL * coil;
            int number = list.lay(numbers[at], numbers[at + 1], numbers[at + 2], numbers[at + 3]);
            if (number < 0) {
                list.keepFirst(before);
                return number == FULL ? FULL : NOT;
            }
        }
        return list.size;
    }

    // ---- small numbers

    private static boolean isWithin(int number, int least, int most) {
        return number >= least && number <= most;
    }

    private static boolean isTone(int tone) {
        return isWithin(tone, 1, MOST_TONE);
    }

    private static int oneIf(boolean is) {
        return is ? 1 : 0;
    }

    /** The greatest number that divides both, for numbers from 1 to 24: small enough to look at each. */
    private static int greatestCommonDivisor(int a, int b) {
        int greatest = 1;
        for (int d = 2; d <= a; d++) {
            if (a % d == 0 && b % d == 0) {
                greatest = d;
            }
        }
        return greatest;
    }

    private static int leastCommonMultiple(int a, int b) {
        return a / greatestCommonDivisor(a, b) * b;
    }

    /** The numbers of a motor, and what follows from them alone. */
    private static final class Motor {
        int slots = 12;
        int poles = 1;
        int phases = 3;

        boolean hasSlot(int slot) {
            return isWithin(slot, 0, slots - 1);
        }

        boolean hasPhase(int phase) {
            return isWithin(phase, 0, phases - 1);
        }

        /** Slots from one to the other, the lesser way round. */
        int between(int slot, int other) {
            int apart = Math.abs(slot - other);
            return Math.min(apart, slots - apart);
        }

        int beltOf(int slot) {
            return 2 * phases * poles * slot / slots % (2 * phases);
        }

        int phaseOf(int belt) {
            switch (phases) {
                case 2: return belt % 2;
                case 3: return 2 * belt % 3;
                default: return 0;
            }
        }

        boolean isTurnedRound(int belt) {
            return phases == 2 ? belt >= 2 : belt % 2 == 1;
        }

        /** Whether the slots part evenly among the phases, in each of the like parts of the motor. */
        boolean isEven() {
            return slots % (phases * greatestCommonDivisor(slots, poles)) == 0;
        }
    }

    /** The powers of z, the Q-th root of one, each in the one row of whole numbers below the degree. */
    private static final class Roots {
        private int order;
        int degree;
        final int[] polynomial = new int[MOST_SLOTS + 1];
        private final int[][] powers = new int[MOST_SLOTS][MOST_SLOTS];

        void raiseTo(int q) {
            order = q;
            layPolynomial();
            layPowers();
        }

        /**
         * The cyclotomic polynomial is the product of (1 - x to the power d) or one by it, for the divisors d
         * of Q, by the sign of Q / d (Moebius); as a row of powers that is cut behind Q no division has a rest.
         */
        private void layPolynomial() {
            setToOne(polynomial);
            degree = 0;
            for (int d = 1; d <= order; d++) {
                int sign = order % d == 0 ? signOf(order / d) : 0;
                degree += sign * d;
                if (sign > 0) {
                    multiply(d);
                } else if (sign < 0) {
                    divide(d);
                }
            }
        }

        private void multiply(int d) {
            for (int i = order; i >= d; i--) {
                polynomial[i] -= polynomial[i - d];
            }
        }

        private void divide(int d) {
            for (int i = d; i <= order; i++) {
                polynomial[i] += polynomial[i - d];
            }
        }

        /** 0 if a square above 1 divides the number; else 1 or -1, as its primes are even or odd in number. */
        private static int signOf(int number) {
            int sign = 1;
            int rest = number;
            for (int prime = 2; prime <= number; prime++) {
                if (rest % prime == 0) {
                    rest /= prime;
                    sign = rest % prime == 0 ? 0 : -sign;
                }
            }
            return sign;
        }

        private void layPowers() {
            setToOne(powers[0]);
            for (int j = 1; j < order; j++) {
                System.arraycopy(powers[j - 1], 0, powers[j], 0, MOST_SLOTS);
                turnByOne(powers[j]);
            }
        }

        private static void setToOne(int[] row) {
            row[0] = 1;
            for (int i = 1; i < row.length; i++) {
                row[i] = 0;
            }
        }

        /** A row times z: what comes to the degree goes down again by the polynomial, whose first is 1. */
        void turnByOne(int[] row) {
            int top = row[degree - 1];
            for (int i = degree - 1; i > 0; i--) {
                row[i] = row[i - 1] - top * polynomial[i];
            }
            row[0] = -top * polynomial[0];
        }

        /** Adds z to a power, so many times, to a row. */
        void add(int[] row, int exponent, int times) {
            int[] power = powers[Math.floorMod(exponent, order)];
            for (int i = 0; i < degree; i++) {
                row[i] += times * power[i];
            }
        }

        boolean isNought(int[] row) {
            for (int i = 0; i < degree; i++) {
                if (row[i] != 0) {
                    return false;
                }
            }
            return true;
        }

        boolean areSame(int[] row, int[] other) {
            for (int i = 0; i < degree; i++) {
                if (row[i] != other[i]) {
                    return false;
                }
            }
            return true;
        }
    }

    /** The coils as they came, and how many sides each slot has of them. */
    private static final class CoilList {
        private final Motor machine;
        int size;
        final int[] phase = new int[MOST_COILS];
        final int[] in = new int[MOST_COILS];
        final int[] out = new int[MOST_COILS];
        final int[] turns = new int[MOST_COILS];
        final boolean[] used = new boolean[MOST_COILS];
        final int[] sidesIn = new int[MOST_SLOTS];

        CoilList(Motor machine) {
            this.machine = machine;
        }

        boolean has(int coil) {
            return isWithin(coil, 0, size - 1);
        }

        /** One more coil, in use: its number, or a refusal. */
        int lay(int itsPhase, int itsIn, int itsOut, int itsTurns) {
            if (!machine.hasPhase(itsPhase) || !machine.hasSlot(itsIn) || !machine.hasSlot(itsOut)
                    || itsIn == itsOut || !isWithin(itsTurns, 1, MOST_TURNS)) {
                return BAD;
            }
            if (sidesIn[itsIn] >= MOST_SIDES || sidesIn[itsOut] >= MOST_SIDES) {
                return NOT;
            }
            if (size >= MOST_COILS) {
                return FULL;
            }
            phase[size] = itsPhase;
            in[size] = itsIn;
            out[size] = itsOut;
            turns[size] = itsTurns;
            used[size] = true;
            sidesIn[itsIn]++;
            sidesIn[itsOut]++;
            size++;
            return size - 1;
        }

        /** All coils but the first n go, the latest first. */
        void keepFirst(int n) {
            while (size > n) {
                size--;
                sidesIn[in[size]]--;
                sidesIn[out[size]]--;
            }
        }

        int inUse() {
            int number = 0;
            for (int coil = 0; coil < size; coil++) {
                number += oneIf(used[coil]);
            }
            return number;
        }

        boolean isUsedIn(int coil, int itsPhase) {
            return used[coil] && phase[coil] == itsPhase;
        }

        /** How many coils of a phase are in use; the first of them, as many as it holds, go into a row. */
        int gather(int itsPhase, int[] row) {
            int number = 0;
            for (int coil = 0; coil < size; coil++) {
                if (isUsedIn(coil, itsPhase)) {
                    if (number < row.length) {
                        row[number] = coil;
                    }
                    number++;
                }
            }
            return number;
        }
    }

    /** The waves of all phases for one tone. */
    private static final class Waves {
        private final Motor machine;
        private final Roots roots;
        private final CoilList list;
        private int tone;
        final int[][] sums = new int[MOST_PHASES][MOST_SLOTS];
        private final int[] work = new int[MOST_SLOTS];
        // Bit e of a phase's number: its wave is that of phase 0 times z to the power e.
        private final int[] likeTurns = new int[MOST_PHASES];

        Waves(Motor machine, Roots roots, CoilList list) {
            this.machine = machine;
            this.roots = roots;
            this.list = list;
        }

        void gather(int ofTone) {
            tone = ofTone;
            for (int f = 0; f < MOST_PHASES; f++) {
                setToNought(sums[f]);
            }
            for (int coil = 0; coil < list.size; coil++) {
                if (list.used[coil]) {
                    addCoil(coil, 1);
                }
            }
        }

        /** Adds a coil's part to its phase's wave; times -1 takes it away. */
        void addCoil(int coil, int times) {
            int[] sum = sums[list.phase[coil]];
            int factor = times * list.turns[coil];
            roots.add(sum, tone * list.in[coil], factor);
            roots.add(sum, tone * list.out[coil], -factor);
        }

        boolean isNought(int phase) {
            return roots.isNought(sums[phase]);
        }

        /** The least number of slots by which the phases are balanced, or NONE. */
        int leastTurn() {
            if (machine.phases > 1 && !isNoughtTogether()) {
                return NONE;
            }
            findLikeTurns();
            for (int s = 0; s < machine.slots; s++) {
                if (isLikeBy(s)) {
                    return s;
                }
            }
            return NONE;
        }

        private boolean isNoughtTogether() {
            setToNought(work);
            for (int f = 0; f < machine.phases; f++) {
                for (int i = 0; i < roots.degree; i++) {
                    work[i] += sums[f][i];
                }
            }
            return roots.isNought(work);
        }

        private void findLikeTurns() {
            setToNought(likeTurns);
            System.arraycopy(sums[0], 0, work, 0, MOST_SLOTS);
            for (int e = 0; e < machine.slots; e++) {
                for (int f = 0; f < machine.phases; f++) {
                    if (roots.areSame(work, sums[f])) {
                        likeTurns[f] |= 1 << e;
                    }
                }
                roots.turnByOne(work);
            }
        }

        private boolean isLikeBy(int s) {
            for (int f = 0; f < machine.phases; f++) {
                int exponent = tone * f * s % machine.slots;
                if ((likeTurns[f] >> exponent & 1) == 0) {
                    return false;
                }
            }
            return true;
        }

        private static void setToNought(int[] row) {
            for (int i = 0; i < row.length; i++) {
                row[i] = 0;
            }
        }
    }

    /** Parts the coils of a phase among ways side by side, and keeps the latest parting found. */
    private static final class WayFinder {
        private static final int MOST_PARTED = 8;

        private final Motor machine;
        private final Roots roots;
        private final CoilList list;
        final int[] latest = new int[MOST_COILS];
        private final int[] parted = new int[MOST_PARTED];
        private int size;
        private int wayCount;
        private final int[] chosen = new int[MOST_PARTED];
        private final int[] held = new int[MOST_WAYS];
        private final int[][] sums = new int[MOST_WAYS][MOST_SLOTS];

        WayFinder(Motor machine, Roots roots, CoilList list) {
            this.machine = machine;
            this.roots = roots;
            this.list = list;
            for (int coil = 0; coil < MOST_COILS; coil++) {
                latest[coil] = NONE;
            }
        }

        int part(int phase, int g) {
            size = list.gather(phase, parted);
            wayCount = g;
            if (size > MOST_PARTED) {
                return FULL;
            }
            if (size == 0 || size % g != 0) {
                return NONE;
            }
            if (!choose(0, 0)) {
                return NONE;
            }
            keepChosen();
            return 1;
        }

        /**
         * Chooses ways for the coils from one on, the lesser way first, and leaves all ways empty again. Ways
         * that hold nothing yet are alike, so beyond those begun only the first of them is tried.
         */
        private boolean choose(int at, int begun) {
            if (at >= size) {
                return areAllSame();
            }
            for (int way = 0; way < wayCount && way <= begun; way++) {
                if (held[way] < size / wayCount) {
                    chosen[at] = way;
                    move(parted[at], way, 1);
                    boolean found = choose(at + 1, Math.max(begun, way + 1));
                    move(parted[at], way, -1);
                    if (found) {
                        return true;
                    }
                }
            }
            return false;
        }

        /** Puts a coil into a way; times -1 takes it out. */
        private void move(int coil, int way, int times) {
            int factor = times * list.turns[coil];
            held[way] += times;
            roots.add(sums[way], machine.poles * list.in[coil], factor);
            roots.add(sums[way], machine.poles * list.out[coil], -factor);
        }

        private boolean areAllSame() {
            for (int way = 1; way < wayCount; way++) {
                if (!roots.areSame(sums[0], sums[way])) {
                    return false;
                }
            }
            return true;
        }

        private void keepChosen() {
            for (int coil = 0; coil < MOST_COILS; coil++) {
                latest[coil] = NONE;
            }
            for (int at = 0; at < size; at++) {
                latest[parted[at]] = chosen[at];
            }
        }
    }

    /** Finds the tour of a phase, and keeps the latest one. */
    private static final class TourFinder {
        private static final int MOST_STOPS = 7;
        private static final int BEYOND_EVERY_TOUR = MOST_STOPS * MOST_SLOTS;

        private final CoilList list;
        int latestSize;
        final int[] latest = new int[MOST_STOPS];
        private final int[] stops = new int[MOST_STOPS];
        private int size;
        private int least;
        private final int[] order = new int[MOST_STOPS];
        private final boolean[] isTaken = new boolean[MOST_STOPS];

        TourFinder(CoilList list) {
            this.list = list;
        }

        int shortest(int phase) {
            size = list.gather(phase, stops);
            if (size > MOST_STOPS) {
                return FULL;
            }
            if (size == 0) {
                return NONE;
            }
            least = BEYOND_EVERY_TOUR;
            latestSize = size;
            order[0] = stops[0];
            goOn(1, 0);
            return least;
        }

        /** Tries the stops not taken yet, the first by coils first: so of like tours the first stays. */
        private void goOn(int at, int sum) {
            if (sum >= least) {
                return;
            }
            if (at >= size) {
                keepIfLess(sum + step(order[size - 1], order[0]));
                return;
            }
            for (int stop = 1; stop < size; stop++) {
                if (!isTaken[stop]) {
                    isTaken[stop] = true;
                    order[at] = stops[stop];
                    goOn(at + 1, sum + step(order[at - 1], order[at]));
                    isTaken[stop] = false;
                }
            }
        }

        private int step(int coil, int next) {
            return list.machine.between(list.out[coil], list.in[next]);
        }

        private void keepIfLess(int sum) {
            if (sum < least) {
                least = sum;
                System.arraycopy(order, 0, latest, 0, size);
            }
        }
    }

    /** Picks the fewest coils for a mend or for shorts, and keeps the latest picked. */
    private static final class Picker {
        private static final int MOST_MENDED = 2;
        private static final int MOST_SHORT = 3;

        private final Motor machine;
        private final CoilList list;
        private final Waves waves;
        int latestSize;
        final int[] latest = new int[MOST_SHORT];
        private final int[] trial = new int[MOST_SHORT];

        Picker(Motor machine, CoilList list, Waves waves) {
            this.machine = machine;
            this.list = list;
            this.waves = waves;
        }

        int fewestToMend() {
            waves.gather(machine.poles);
            for (int number = 0; number <= MOST_MENDED; number++) {
                if (pickToMend(0, number, 0)) {
                    return keep(number);
                }
            }
            return NONE;
        }

        /** Takes coils from one on out of the waves, until so many are out as asked, and puts them back. */
        private boolean pickToMend(int at, int number, int from) {
            if (at >= number) {
                return !waves.isNought(0) && waves.leastTurn() != NONE;
            }
            for (int coil = from; coil < list.size; coil++) {
                if (list.used[coil]) {
                    trial[at] = coil;
                    waves.addCoil(coil, -1);
                    boolean found = pickToMend(at + 1, number, coil + 1);
                    waves.addCoil(coil, 1);
                    if (found) {
                        return true;
                    }
                }
            }
            return false;
        }

        int fewestShort(int phase, int reading) {
            int missing = turnsOf(phase) - reading;
            for (int number = 0; number <= MOST_SHORT; number++) {
                if (pickShort(phase, 0, number, 0, missing)) {
                    return keep(number);
                }
            }
            return NONE;
        }

        private int turnsOf(int phase) {
            int sum = 0;
            for (int coil = 0; coil < list.size; coil++) {
                if (list.isUsedIn(coil, phase)) {
                    sum += list.turns[coil];
                }
            }
            return sum;
        }

        private boolean pickShort(int phase, int at, int number, int from, int missing) {
            if (at >= number) {
                return missing == 0;
            }
            for (int coil = from; coil < list.size; coil++) {
                if (list.isUsedIn(coil, phase)) {
                    trial[at] = coil;
                    if (pickShort(phase, at + 1, number, coil + 1, missing - list.turns[coil])) {
                        return true;
                    }
                }
            }
            return false;
        }

        private int keep(int number) {
            System.arraycopy(trial, 0, latest, 0, number);
            latestSize = number;
            return number;
        }
    }

    /** Sheets that may be missing: each a row of numbers of one lane. */
    private static final class Sheets {
        static final int MOST_SHEETS = 4;
        static final int MOST_ITEMS = 96;
        static final int FINE = 0;
        private static final int LANES = 3;
        private static final int BYTES = 0;
        private static final int NO_LANE = -1;

        private final int[] laneOf = new int[MOST_SHEETS];
        private final int[] sizeOf = new int[MOST_SHEETS];
        // An int holds what comes into any lane: a long, too, only ever gets the bits of an int.
        final int[][] items = new int[MOST_SHEETS][MOST_ITEMS];

        Sheets() {
            for (int sheet = 0; sheet < MOST_SHEETS; sheet++) {
                laneOf[sheet] = NO_LANE;
            }
        }

        boolean hasPlace(int sheet, int lane) {
            return isWithin(sheet, 0, MOST_SHEETS - 1) && isWithin(lane, 0, LANES - 1);
        }

        boolean isMissing(int sheet) {
            return laneOf[sheet] == NO_LANE;
        }

        /** What the machine finds when n items from one on are looked at in a row of a lane. */
        int refusalOf(int sheet, int lane, int from, int n) {
            if (isMissing(sheet)) {
                return NULL;
            }
            if (laneOf[sheet] != lane) {
                return CAST;
            }
            return isWithin(from, 0, sizeOf[sheet] - n) ? FINE : INDEX;
        }

        void renew(int sheet, int lane, int n) {
            laneOf[sheet] = lane;
            sizeOf[sheet] = n;
            for (int i = 0; i < MOST_ITEMS; i++) {
                items[sheet][i] = 0;
            }
        }

        int empty(int sheet) {
            laneOf[sheet] = NO_LANE;
            return sizeOf[sheet];
        }

        void put(int sheet, int i, int v) {
            items[sheet][i] = laneOf[sheet] == BYTES ? (byte) v : v;
        }
    }
}
