import java.util.ArrayList;
import java.util.Arrays;
import java.util.List;

/**
 * The document once more, in its dearest and plainest form: every wave is divided out anew, every parting,
 * order and choice is looked at whole, and sheets are true rows of bytes, ints and longs. It shares no way of
 * reckoning with the program, so that one fault is not likely to stand in both.
 */
final class Model {
    static final int BAD = -1, NOT = -2, FULL = -3, NONE = -4, NULL = -11, CAST = -12, INDEX = -13, SIZE = -14;

    private record Coil(int phase, int in, int out, int turns, boolean used) { }

    private static final long[][] KNOWN = new long[25][];

    private int q = 12;
    private int p = 1;
    private int m = 3;
    private List<Coil> list = new ArrayList<>();
    private int[] latestWays = new int[0];
    private int[] latestTour = new int[0];
    private int[] latestPicked = new int[0];
    private final Object[] held = new Object[4];

    // ---- waves, as polynomials of z with Q powers, the least first

    /** The Q-th cyclotomic polynomial: x to the power n less 1, by those of all lesser divisors. */
    static long[] cyclotomicOf(int n) {
        if (KNOWN[n] == null) {
            KNOWN[n] = cyclotomicAnew(n);
        }
        return KNOWN[n];
    }

    private static long[] cyclotomicAnew(int n) {
        long[] rest = new long[n + 1];
        rest[0] = -1;
        rest[n] = 1;
        for (int d = 1; d < n; d++) {
            if (n % d == 0) {
                rest = divided(rest, cyclotomicOf(d))[0];
            }
        }
        return rest;
    }

    /** Quotient and rest. */
    private static long[][] divided(long[] whole, long[] by) {
        long[] rest = whole.clone();
        int degree = by.length - 1;
        long[] quotient = new long[Math.max(1, whole.length - degree)];
        for (int top = whole.length - 1; top >= degree; top--) {
            long times = rest[top];
            quotient[top - degree] = times;
            for (int i = 0; i <= degree; i++) {
                rest[top - degree + i] -= times * by[i];
            }
        }
        return new long[][] {quotient, Arrays.copyOf(rest, degree)};
    }

    private long[] waveOf(List<Coil> coils, int phase, int tone) {
        long[] sum = new long[q];
        for (Coil c : coils) {
            if (c.used && c.phase == phase) {
                sum[tone * c.in % q] += c.turns;
                sum[tone * c.out % q] -= c.turns;
            }
        }
        return sum;
    }

    private long[] reduced(long[] wave) {
        return divided(wave, cyclotomicOf(q))[1];
    }

    private boolean same(long[] a, long[] b) {
        return Arrays.equals(reduced(a), reduced(b));
    }

    private boolean still(long[] wave) {
        return same(wave, new long[q]);
    }

    private long[] turned(long[] wave, int exponent) {
        long[] result = new long[q];
        for (int i = 0; i < q; i++) {
            result[(i + exponent) % q] += wave[i];
        }
        return result;
    }

    private int leastTurn(List<Coil> coils, int tone) {
        long[] all = new long[q];
        for (int f = 0; f < m; f++) {
            long[] wave = waveOf(coils, f, tone);
            for (int i = 0; i < q; i++) {
                all[i] += wave[i];
            }
        }
        if (m > 1 && !still(all)) {
            return NONE;
        }
        long[] first = waveOf(coils, 0, tone);
        for (int s = 0; s < q; s++) {
            boolean fits = true;
            for (int f = 0; f < m && fits; f++) {
                fits = same(waveOf(coils, f, tone), turned(first, tone * f * s));
            }
            if (fits) {
                return s;
            }
        }
        return NONE;
    }

    // ---- 1 the motor

    int motor(int newQ, int newP, int newM) {
        if (newQ < 3 || newQ > 24 || newP < 1 || newP > 6 || newM < 1 || newM > 3) {
            return BAD;
        }
        q = newQ;
        p = newP;
        m = newM;
        list = new ArrayList<>();
        return 1;
    }

    private static int sidesOf(List<Coil> coils, int slot) {
        int n = 0;
        for (Coil c : coils) {
            n += (c.in == slot ? 1 : 0) + (c.out == slot ? 1 : 0);
        }
        return n;
    }

    private int refusal(List<Coil> coils, long phase, long in, long out, long turns) {
        boolean told = phase >= 0 && phase < m && in >= 0 && in < q && out >= 0 && out < q && in != out
                && turns >= 1 && turns <= 99;
        if (!told) {
            return BAD;
        }
        if (sidesOf(coils, (int) in) == 2 || sidesOf(coils, (int) out) == 2) {
            return NOT;
        }
        return coils.size() == 24 ? FULL : 0;
    }

    int coil(int phase, int in, int out, int turns) {
        int refusal = refusal(list, phase, in, out, turns);
        if (refusal != 0) {
            return refusal;
        }
        list.add(new Coil(phase, in, out, turns, true));
        return list.size() - 1;
    }

    private boolean has(int coil) {
        return coil >= 0 && coil < list.size();
    }

    int use(int coil, boolean is) {
        if (!has(coil)) {
            return BAD;
        }
        Coil c = list.get(coil);
        list.set(coil, new Coil(c.phase, c.in, c.out, c.turns, is));
        return c.used ? 1 : 0;
    }

    int clear() {
        int n = list.size();
        list = new ArrayList<>();
        return n;
    }

    int make(int b) {
        if (b < 1 || b > q - 1) {
            return BAD;
        }
        list = new ArrayList<>();
        for (int i = 0; i < q; i++) {
            int belt = (int) Math.floor((2.0 * m * p * i + 0.5) / q) % (2 * m);
            int phase = m == 1 ? 0 : m == 2 ? belt % 2 : new int[] {0, 2, 1, 0, 2, 1}[belt];
            boolean round = m == 2 ? belt == 2 || belt == 3 : belt == 1 || belt == 3 || belt == 5;
            int other = i + b >= q ? i + b - q : i + b;
            list.add(new Coil(phase, round ? other : i, round ? i : other, 1, true));
        }
        return q;
    }

    int told(int coil, int what) {
        if (!has(coil) || what < 0 || what > 4) {
            return BAD;
        }
        Coil c = list.get(coil);
        return new int[] {c.phase, c.in, c.out, c.turns, c.used ? 1 : 0}[what];
    }

    int sides(int slot) {
        return slot < 0 || slot >= q ? BAD : sidesOf(list, slot);
    }

    int count(int what) {
        if (what < 0 || what > 7) {
            return BAD;
        }
        int used = 0;
        for (Coil c : list) {
            used += c.used ? 1 : 0;
        }
        int least = q;
        while (least % (2 * p) != 0) {
            least += q;
        }
        int greatest = q;
        while (q % greatest != 0 || p % greatest != 0) {
            greatest--;
        }
        int degree = cyclotomicOf(q).length - 1;
        return new int[] {list.size(), used, q, p, m, degree, least, q % (m * greatest) == 0 ? 1 : 0}[what];
    }

    // ---- 2 waves

    int cyclotomic(int i) {
        long[] phi = cyclotomicOf(q);
        return i < 0 || i >= phi.length ? -1001 : (int) phi[i];
    }

    private boolean isPhase(int phase) {
        return phase >= 0 && phase < m;
    }

    private static boolean isTone(int tone) {
        return tone >= 1 && tone <= 47;
    }

    int wave(int phase, int tone, int i) {
        if (!isPhase(phase) || !isTone(tone) || i < 0 || i >= cyclotomicOf(q).length - 1) {
            return -100001;
        }
        return (int) reduced(waveOf(list, phase, tone))[i];
    }

    int isStill(int phase, int tone) {
        if (!isPhase(phase) || !isTone(tone)) {
            return BAD;
        }
        return still(waveOf(list, phase, tone)) ? 1 : 0;
    }

    int balanced(int tone) {
        return isTone(tone) ? leastTurn(list, tone) : BAD;
    }

    // ---- 3 ways, tours, mends

    private List<Integer> usedIn(int phase) {
        List<Integer> numbers = new ArrayList<>();
        for (int i = 0; i < list.size(); i++) {
            if (list.get(i).used && list.get(i).phase == phase) {
                numbers.add(i);
            }
        }
        return numbers;
    }

    int ways(int phase, int g) {
        if (!isPhase(phase) || g < 1 || g > 4) {
            return BAD;
        }
        List<Integer> numbers = usedIn(phase);
        int n = numbers.size();
        if (n > 8) {
            return FULL;
        }
        if (n == 0) {
            return NONE;
        }
        int all = (int) Math.round(Math.pow(g, n));
        for (int code = 0; code < all; code++) {
            int[] way = new int[n];
            int rest = code;
            for (int at = n - 1; at >= 0; at--) {
                way[at] = rest % g;
                rest /= g;
            }
            if (areWays(phase, numbers, way, g)) {
                latestWays = new int[24];
                Arrays.fill(latestWays, NONE);
                for (int at = 0; at < n; at++) {
                    latestWays[numbers.get(at)] = way[at];
                }
                return 1;
            }
        }
        return NONE;
    }

    private boolean areWays(int phase, List<Integer> numbers, int[] way, int g) {
        int[] members = new int[g];
        for (int w : way) {
            members[w]++;
        }
        for (int w = 0; w < g; w++) {
            if (members[w] != members[0]) {
                return false;
            }
        }
        long[] first = null;
        for (int w = 0; w < g; w++) {
            List<Coil> part = new ArrayList<>();
            for (int at = 0; at < way.length; at++) {
                if (way[at] == w) {
                    part.add(list.get(numbers.get(at)));
                }
            }
            long[] wave = reduced(waveOf(part, phase, p));
            if (first != null && !Arrays.equals(first, wave)) {
                return false;
            }
            first = wave;
        }
        return true;
    }

    int wayOf(int coil) {
        if (!has(coil)) {
            return BAD;
        }
        return latestWays.length == 0 ? NONE : latestWays[coil];
    }

    private int lesserWay(int a, int b) {
        int up = 0;
        while ((a + up) % q != b) {
            up++;
        }
        int down = 0;
        while ((a - down + q) % q != b) {
            down++;
        }
        return up < down ? up : down;
    }

    int copper() {
        int sum = 0;
        for (Coil c : list) {
            sum += c.used ? c.turns * lesserWay(c.in, c.out) : 0;
        }
        return sum;
    }

    private int sumOf(List<Integer> order) {
        int sum = 0;
        for (int i = 0; i < order.size(); i++) {
            Coil next = list.get(order.get((i + 1) % order.size()));
            sum += lesserWay(list.get(order.get(i)).out, next.in);
        }
        return sum;
    }

    int tour(int phase) {
        if (!isPhase(phase)) {
            return BAD;
        }
        List<Integer> numbers = usedIn(phase);
        if (numbers.size() > 7) {
            return FULL;
        }
        if (numbers.isEmpty()) {
            return NONE;
        }
        List<List<Integer>> orders = new ArrayList<>();
        orders.add(List.of(numbers.get(0)));
        for (int length = 1; length < numbers.size(); length++) {
            List<List<Integer>> longer = new ArrayList<>();
            for (List<Integer> order : orders) {
                for (int number : numbers) {
                    if (!order.contains(number)) {
                        List<Integer> next = new ArrayList<>(order);
                        next.add(number);
                        longer.add(next);
                    }
                }
            }
            orders = longer;
        }
        int least = Integer.MAX_VALUE;
        for (List<Integer> order : orders) {
            least = Math.min(least, sumOf(order));
        }
        for (List<Integer> order : orders) {
            if (sumOf(order) == least) {
                latestTour = order.stream().mapToInt(Integer::intValue).toArray();
                return least;
            }
        }
        throw new IllegalStateException("no order is the least");
    }

    int tourAt(int i) {
        if (i == -1) {
            return latestTour.length;
        }
        return i < 0 || i >= latestTour.length ? BAD : latestTour[i];
    }

    /** All choices of so many of the numbers, the first by coils first. */
    private static List<List<Integer>> choices(List<Integer> numbers, int many) {
        if (many == 0) {
            return List.of(List.of());
        }
        List<List<Integer>> all = new ArrayList<>();
        for (int i = 0; i < numbers.size(); i++) {
            for (List<Integer> others : choices(numbers.subList(i + 1, numbers.size()), many - 1)) {
                List<Integer> choice = new ArrayList<>(List.of(numbers.get(i)));
                choice.addAll(others);
                all.add(choice);
            }
        }
        return all;
    }

    private int pick(List<Integer> choice) {
        latestPicked = choice.stream().mapToInt(Integer::intValue).toArray();
        return latestPicked.length;
    }

    int mend() {
        List<Integer> numbers = new ArrayList<>();
        for (int f = 0; f < m; f++) {
            numbers.addAll(usedIn(f));
        }
        numbers.sort(null);
        for (int many = 0; many <= 2; many++) {
            for (List<Integer> choice : choices(numbers, many)) {
                List<Coil> left = new ArrayList<>();
                for (int i = 0; i < list.size(); i++) {
                    if (!choice.contains(i)) {
                        left.add(list.get(i));
                    }
                }
                if (leastTurn(left, p) != NONE && !still(waveOf(left, 0, p))) {
                    return pick(choice);
                }
            }
        }
        return NONE;
    }

    int shorts(int phase, int reading) {
        if (!isPhase(phase) || reading < 0 || reading > 9999) {
            return BAD;
        }
        List<Integer> numbers = usedIn(phase);
        for (int many = 0; many <= 3; many++) {
            for (List<Integer> choice : choices(numbers, many)) {
                int left = 0;
                for (int number : numbers) {
                    left += choice.contains(number) ? 0 : list.get(number).turns;
                }
                if (left == reading) {
                    return pick(choice);
                }
            }
        }
        return NONE;
    }

    int picked(int i) {
        return i < 0 || i >= latestPicked.length ? BAD : latestPicked[i];
    }

    // ---- 4 sheets

    private static int lengthOf(Object row) {
        return java.lang.reflect.Array.getLength(row);
    }

    private static int laneOf(Object row) {
        return row instanceof byte[] ? 0 : row instanceof int[] ? 1 : 2;
    }

    int sheet(int sheet, int lane, int n) {
        if (sheet < 0 || sheet > 3 || lane < 0 || lane > 2 || n > 96) {
            return BAD;
        }
        if (n < 0) {
            return SIZE;
        }
        held[sheet] = lane == 0 ? new byte[n] : lane == 1 ? new int[n] : new long[n];
        return n;
    }

    int drop(int sheet) {
        if (sheet < 0 || sheet > 3) {
            return BAD;
        }
        if (held[sheet] == null) {
            return NULL;
        }
        int n = lengthOf(held[sheet]);
        held[sheet] = null;
        return n;
    }

    int item(int sheet, int lane, int i, int v) {
        if (sheet < 0 || sheet > 3 || lane < 0 || lane > 2) {
            return BAD;
        }
        Object row = held[sheet];
        if (row == null) {
            return NULL;
        }
        if (laneOf(row) != lane) {
            return CAST;
        }
        if (i < 0 || i >= lengthOf(row)) {
            return INDEX;
        }
        if (row instanceof byte[] bytes) {
            bytes[i] = (byte) v;
        } else if (row instanceof int[] ints) {
            ints[i] = v;
        } else {
            ((long[]) row)[i] = v;
        }
        return 1;
    }

    int coils(int sheet, int lane, int i, int n) {
        if (sheet < 0 || sheet > 3 || lane < 0 || lane > 2 || n < 0 || n > 24) {
            return BAD;
        }
        Object row = held[sheet];
        if (row == null) {
            return NULL;
        }
        if (laneOf(row) != lane) {
            return CAST;
        }
        if (i < 0 || (long) i + 4 * n > lengthOf(row)) {
            return INDEX;
        }
        List<Coil> longer = new ArrayList<>(list);
        for (int k = 0; k < n; k++) {
            long[] v = new long[4];
            for (int j = 0; j < 4; j++) {
                v[j] = java.lang.reflect.Array.getLong(row, i + 4 * k + j);
            }
            int refusal = refusal(longer, v[0], v[1], v[2], v[3]);
            if (refusal != 0) {
                return refusal == FULL ? FULL : NOT;
            }
            longer.add(new Coil((int) v[0], (int) v[1], (int) v[2], (int) v[3], true));
        }
        list = longer;
        return list.size();
    }
}
