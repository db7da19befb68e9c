import java.math.BigInteger;
import java.util.ArrayList;
import java.util.Arrays;
import java.util.HashMap;
import java.util.List;
import java.util.Map;

/**
 * The document once more, in another way: fractions of BigInteger, products by the told table of i, j, k,
 * tables by turning points, orders by turning again and again, lists by sorting.
 */
final class Model {
    private static final BigInteger ZERO = BigInteger.ZERO, ONE = BigInteger.ONE, TWO = BigInteger.TWO;

    /** A fraction in least terms. */
    private static final class Part {
        final BigInteger up, low;

        Part(BigInteger up, BigInteger low) {
            BigInteger common = up.gcd(low);
            if (low.signum() < 0) common = common.negate();
            this.up = up.divide(common);
            this.low = low.divide(common);
        }

        static Part of(long number) {
            return new Part(BigInteger.valueOf(number), ONE);
        }

        Part plus(Part o) {
            return new Part(up.multiply(o.low).add(o.up.multiply(low)), low.multiply(o.low));
        }

        Part minus(Part o) {
            return plus(o.by(Part.of(-1)));
        }

        Part by(Part o) {
            return new Part(up.multiply(o.up), low.multiply(o.low));
        }

        Part over(Part o) {
            return new Part(up.multiply(o.low), low.multiply(o.up));
        }

        BigInteger floor() {
            BigInteger[] both = up.divideAndRemainder(low);
            return both[1].signum() < 0 ? both[0].subtract(ONE) : both[0];
        }

        int compare(Part o) {
            return up.multiply(o.low).compareTo(o.up.multiply(low));
        }

        boolean is(Part o) {
            return up.equals(o.up) && low.equals(o.low);
        }
    }

    private static final Part NOUGHT = Part.of(0), HALF_PART = new Part(ONE, TWO);

    /** Row a, column b: what the a-th of 1, i, j, k times the b-th is; below 0 stands for the negative, 4 for 1. */
    private static final int[][] PRODUCTS = {{4, 1, 2, 3}, {1, -4, 3, -2}, {2, -3, -4, 1}, {3, 2, -1, -4}};

    private static Part[] product(Part[] p, Part[] q) {
        Part[] made = {NOUGHT, NOUGHT, NOUGHT, NOUGHT};
        for (int a = 0; a < 4; a++) {
            for (int b = 0; b < 4; b++) {
                int told = PRODUCTS[a][b];
                int place = Math.abs(told) % 4;
                Part now = p[a].by(q[b]);
                made[place] = told < 0 ? made[place].minus(now) : made[place].plus(now);
            }
        }
        return made;
    }

    private static Part[] back(Part[] p) {
        return new Part[] {p[0], NOUGHT.minus(p[1]), NOUGHT.minus(p[2]), NOUGHT.minus(p[3])};
    }

    private static Part norm(Part[] p) {
        Part sum = NOUGHT;
        for (Part each : p) sum = sum.plus(each.by(each));
        return sum;
    }

    private static Part[] scaled(Part[] p, Part by) {
        Part[] made = new Part[4];
        for (int k = 0; k < 4; k++) made[k] = p[k].by(by);
        return made;
    }

    private static Part[] difference(Part[] p, Part[] q) {
        Part[] made = new Part[4];
        for (int k = 0; k < 4; k++) made[k] = p[k].minus(q[k]);
        return made;
    }

    private static Part[] sumOf(Part[] p, Part[] q) {
        return difference(p, scaled(q, Part.of(-1)));
    }

    private static boolean isZero(Part[] p) {
        return norm(p).is(NOUGHT);
    }

    private static boolean isFour(Part[] p) {
        boolean whole = true, half = true;
        for (Part each : p) {
            whole &= each.low.equals(ONE);
            half &= each.low.equals(TWO);
        }
        return whole || half;
    }

    private static int compare(Part[] p, Part[] q) {
        for (int k = 0; k < 4; k++) {
            int c = p[k].compare(q[k]);
            if (c != 0) return c;
        }
        return 0;
    }

    private static Part[] four(long w, long x, long y, long z) {
        return scaled(new Part[] {Part.of(w), Part.of(x), Part.of(y), Part.of(z)}, HALF_PART);
    }

    /** All FOURS of each NORM up to 150, sorted. */
    private static final List<List<Part[]>> LISTS = lists();

    private static List<List<Part[]>> lists() {
        List<List<long[]>> raw = new ArrayList<>();
        for (int n = 0; n <= 150; n++) raw.add(new ArrayList<>());
        for (long w = -25; w <= 25; w++) for (long x = -25; x <= 25; x++) for (long y = -25; y <= 25; y++) for (long z = -25; z <= 25; z++) {
            boolean even = w % 2 == 0 && x % 2 == 0 && y % 2 == 0 && z % 2 == 0;
            boolean odd = w % 2 != 0 && x % 2 != 0 && y % 2 != 0 && z % 2 != 0;
            long whole = w * w + x * x + y * y + z * z;
            if ((even || odd) && whole <= 600) raw.get((int) (whole / 4)).add(new long[] {z, w, y, x});
        }
        List<List<Part[]>> made = new ArrayList<>();
        for (List<long[]> each : raw) {
            List<Part[]> fours = new ArrayList<>();
            for (long[] a : each) fours.add(four(a[1], a[3], a[2], a[0]));
            fours.sort(Model::compare);
            made.add(fours);
        }
        return made;
    }

    private static Part[] associateOf(Part[] p, int side) {
        Part[] best = null;
        for (Part[] unit : LISTS.get(1)) {
            Part[] now = side == 0 ? product(unit, p) : product(p, unit);
            if (best == null || compare(now, best) > 0) best = now;
        }
        return best;
    }

    /** The quotient and the rest. */
    private static Part[][] divided(Part[] p, Part[] q, int side) {
        Part[] inverse = scaled(back(q), Part.of(1).over(norm(q)));
        Part[] u = side == 0 ? product(inverse, p) : product(p, inverse);
        Part[] e = new Part[4], f = new Part[4];
        for (int k = 0; k < 4; k++) {
            BigInteger below = u[k].floor();
            Part low = new Part(below, ONE), high = new Part(below.add(ONE), ONE);
            e[k] = u[k].minus(low).compare(high.minus(u[k])) < 0 ? low : high;
            f[k] = low.plus(HALF_PART);
        }
        Part[] t = norm(difference(u, e)).compare(norm(difference(u, f))) <= 0 ? e : f;
        return new Part[][] {t, difference(p, side == 0 ? product(q, t) : product(t, q))};
    }

    private static Part[] greatestOf(Part[] p, Part[] q, int side) {
        if (isZero(q)) return associateOf(p, 1 - side);
        return greatestOf(q, divided(p, q, side)[1], side);
    }

    private static long whole(Part p) {
        if (!p.low.equals(ONE)) throw new IllegalStateException("no whole number");
        return p.up.longValueExact();
    }

    private static List<Long> primesOf(long n) {
        List<Long> primes = new ArrayList<>();
        long left = n;
        for (long d = 2; d * d <= left; d++) {
            while (left % d == 0) {
                primes.add(d);
                left /= d;
            }
        }
        if (left > 1) primes.add(left);
        return primes;
    }

    private static List<Part[]> partsOf(Part[] p) {
        List<Part[]> made = new ArrayList<>();
        Part[] left = p;
        for (long l : primesOf(whole(norm(p)))) {
            Part[] prime = greatestOf(left, four(2 * l, 0, 0, 0), 0);
            if (whole(norm(prime)) != l) throw new IllegalStateException("no PRIME of that NORM");
            made.add(prime);
            left = scaled(product(back(prime), left), Part.of(1).over(Part.of(l)));
        }
        made.add(left);
        return made;
    }

    private static long dividerOf(Part[] p) {
        long n = whole(norm(p));
        for (long m = (long) Math.sqrt(n) + 2; m > 1; m--) {
            if (n % (m * m) == 0 && isFour(scaled(p, Part.of(1).over(Part.of(m))))) return m;
        }
        return 1;
    }

    private static int kindOf(Part[] p) {
        if (isZero(p)) return 0;
        long n = whole(norm(p));
        if (n == 1) return 4;
        if (primesOf(n).size() == 1) return 3;
        if (dividerOf(p) == 1) return 2;
        return p[0].low.equals(TWO) ? 1 : 0;
    }

    private static Part[] turned(Part[] p, long x, long y, long z) {
        Part[] v = {NOUGHT, Part.of(x), Part.of(y), Part.of(z)};
        return scaled(product(product(p, v), back(p)), Part.of(1).over(norm(p)));
    }

    /** Nine fractions, row by row. */
    private static Part[] tableOf(Part[] p) {
        Part[] made = new Part[9];
        for (int c = 0; c < 3; c++) {
            Part[] point = turned(p, c == 0 ? 1 : 0, c == 1 ? 1 : 0, c == 2 ? 1 : 0);
            for (int r = 0; r < 3; r++) made[3 * r + c] = point[r + 1];
        }
        return made;
    }

    private static boolean staysAll(Part[] table) {
        for (int at = 0; at < 9; at++) if (!table[at].is(Part.of(at % 4 == 0 ? 1 : 0))) return false;
        return true;
    }

    private static Part[] joined(Part[] a, Part[] b) {
        Part[] made = new Part[9];
        for (int r = 0; r < 3; r++) for (int c = 0; c < 3; c++) {
            made[3 * r + c] = NOUGHT;
            for (int k = 0; k < 3; k++) made[3 * r + c] = made[3 * r + c].plus(a[3 * r + k].by(b[3 * k + c]));
        }
        return made;
    }

    private static int orderOf(Part[] p) {
        Part[] table = tableOf(p);
        Part[] now = table;
        for (int times = 1; times <= 12; times++) {
            if (staysAll(now)) return times;
            now = joined(now, table);
        }
        return WholeTurns.NONE;
    }

    /** What stays is across all rows of the TABLE less one that stays all. */
    private static long[] axisOf(Part[] p) {
        Part[] t = tableOf(p);
        if (staysAll(t)) return null;
        for (int at = 0; at < 9; at += 4) t[at] = t[at].minus(Part.of(1));
        for (int a = 0; a < 3; a++) for (int b = a + 1; b < 3; b++) {
            Part[] v = new Part[3];
            for (int k = 0; k < 3; k++) {
                int l = (k + 1) % 3, m = (k + 2) % 3;
                v[k] = t[3 * a + l].by(t[3 * b + m]).minus(t[3 * a + m].by(t[3 * b + l]));
            }
            if (v[0].is(NOUGHT) && v[1].is(NOUGHT) && v[2].is(NOUGHT)) continue;
            return withoutDivisor(v);
        }
        throw new IllegalStateException("no axis");
    }

    private static long[] withoutDivisor(Part[] v) {
        BigInteger low = v[0].low.multiply(v[1].low).multiply(v[2].low);
        BigInteger[] up = new BigInteger[3];
        BigInteger common = ZERO;
        for (int k = 0; k < 3; k++) {
            up[k] = v[k].up.multiply(low).divide(v[k].low);
            common = common.gcd(up[k]);
        }
        int sign = 0;
        for (int k = 0; k < 3 && sign == 0; k++) sign = up[k].signum();
        long[] made = new long[3];
        for (int k = 0; k < 3; k++) made[k] = up[k].divide(common).longValueExact() * sign;
        return made;
    }

    private static long indexOf(Part[] p) {
        long n = whole(norm(p));
        long divider = dividerOf(p);
        n /= divider * divider;
        while (n % 2 == 0) n /= 2;
        return n;
    }

    /** For an INDEX up to 300: the uppers by INDEX are whole numbers, as the lower numbers divide it. */
    private static long[] cellOf(Part[] p) {
        long n = indexOf(p);
        Part[] table = tableOf(p);
        long[] uppers = new long[9];
        for (int at = 0; at < 9; at++) uppers[at] = whole(table[at].by(Part.of(n)));
        long a = 1;
        while (!common(uppers, n, a, 0, 0)) a++;
        long c = n / a;
        long[] second = null, third = null;
        for (long y = c; y >= 1; y--) for (long x = 0; x < a; x++) if (common(uppers, n, x, y, 0)) second = new long[] {x, y};
        for (long z = c; z >= 1; z--) for (long y = 0; y < second[1]; y++) for (long x = 0; x < a; x++) {
            if (common(uppers, n, x, y, z)) third = new long[] {x, y, z};
        }
        return new long[] {a, second[0], second[1], third[0], third[1], third[2]};
    }

    private static boolean common(long[] uppers, long n, long x, long y, long z) {
        for (int c = 0; c < 3; c++) if ((uppers[c] * x + uppers[3 + c] * y + uppers[6 + c] * z) % n != 0) return false;
        return true;
    }

    // ---- the face

    private static final int NULL = 1, PLACE = 2, KIND = 3, SIZE = 4, STORE = 5;
    private final Map<Integer, long[]> trays = new HashMap<>();
    private final Map<Integer, Integer> lanes = new HashMap<>();
    private final Map<Integer, Part[]> slots = new HashMap<>();
    private List<Integer> trace = new ArrayList<>();
    private int status = 0;

    private long found(int number) {
        status = number;
        return -1000010 - number;
    }

    private long well(long answer) {
        status = 0;
        return answer;
    }

    private static boolean slot(int number) {
        return 0 <= number && number < 20;
    }

    private static boolean below(int number, int end) {
        return 0 <= number && number < end;
    }

    long tray(int tray, int lane, int n) {
        if (!below(tray, 8) || !below(lane, 3) || n > 100) return WholeTurns.BAD;
        if (n < 0) return found(SIZE);
        trays.put(tray, new long[n]);
        lanes.put(tray, lane);
        return well(n);
    }

    long set(int tray, int i, long v) {
        if (!below(tray, 8)) return WholeTurns.BAD;
        if (!trays.containsKey(tray)) return found(NULL);
        if (!below(i, trays.get(tray).length)) return found(PLACE);
        int bits = new int[] {8, 32, 64}[lanes.get(tray)];
        long now = v << 64 - bits >> 64 - bits;
        trays.get(tray)[i] = now;
        return well(now);
    }

    long copy(int a, int i, int b, int j, int n) {
        if (!below(a, 8) || !below(b, 8)) return WholeTurns.BAD;
        if (!trays.containsKey(a) || !trays.containsKey(b)) return found(NULL);
        if (!lanes.get(a).equals(lanes.get(b))) return found(STORE);
        if (i < 0 || j < 0 || n < 0 || (long) i + n > trays.get(a).length || (long) j + n > trays.get(b).length) return found(PLACE);
        long[] were = Arrays.copyOf(trays.get(a), trays.get(a).length);
        for (int k = 0; k < n; k++) trays.get(b)[j + k] = were[i + k];
        return well(n);
    }

    long drop(int tray) {
        if (!below(tray, 8)) return WholeTurns.BAD;
        long[] was = trays.remove(tray);
        return was == null ? found(NULL) : well(was.length);
    }

    long take(int slot, int tray, int i) {
        if (!slot(slot) || !below(tray, 8)) return WholeTurns.BAD;
        long[] from = trays.get(tray);
        if (from == null) return found(NULL);
        if (i < 0 || (long) i + 4 > from.length) return found(PLACE);
        Part[] made = four(from[i], from[i + 1], from[i + 2], from[i + 3]);
        if (!isFour(made)) return WholeTurns.BAD;
        return kept(slot, made);
    }

    private static boolean tooGreat(Part[] p) {
        return norm(p).compare(Part.of(1000000000)) > 0;
    }

    private long kept(int slot, Part[] made) {
        if (tooGreat(made)) return WholeTurns.FULL;
        slots.put(slot, made);
        return well(kindOf(made));
    }

    long clear(int slot) {
        if (!slot(slot)) return WholeTurns.BAD;
        return slots.remove(slot) == null ? 0 : 1;
    }

    long number(int slot, int k) {
        if (!slot(slot) || !below(k, 4)) return WholeTurns.BAD;
        if (!slots.containsKey(slot)) return found(NULL);
        return well(whole(slots.get(slot)[k].by(Part.of(2))));
    }

    long norm(int slot) {
        if (!slot(slot)) return WholeTurns.BAD;
        if (!slots.containsKey(slot)) return found(NULL);
        return well(whole(norm(slots.get(slot))));
    }

    long kind(int slot) {
        if (!slot(slot)) return WholeTurns.BAD;
        if (!slots.containsKey(slot)) return found(NULL);
        return well(kindOf(slots.get(slot)));
    }

    private static final int[] ABOVE = {-1, 0, 0, 2, 2};

    private static boolean isToo(int told, int kind) {
        for (int now = told; now >= 0; now = ABOVE[now]) if (now == kind) return true;
        return false;
    }

    long is(int slot, int kind) {
        if (!slot(slot) || !below(kind, 5)) return WholeTurns.BAD;
        if (!slots.containsKey(slot)) return found(NULL);
        return well(isToo(kindOf(slots.get(slot)), kind) ? 1 : 0);
    }

    long as(int slot, int kind) {
        if (!slot(slot) || !below(kind, 5)) return WholeTurns.BAD;
        if (!slots.containsKey(slot)) return found(NULL);
        if (!isToo(kindOf(slots.get(slot)), kind)) return found(KIND);
        return well(whole(norm(slots.get(slot))));
    }

    /** Row: the ask; column: the KIND for which a BODY is told, or 0. The lent ones stand at FOUR. */
    private static final int[][] BODIES = {{10, 0, 0, 12, 11}, {20, 21, 22, 0, 23}, {30, 0, 31, 32, 0}};

    long ask(int slot, int what) {
        if (!slot(slot) || !below(what, 3)) return WholeTurns.BAD;
        trace = new ArrayList<>();
        if (!slots.containsKey(slot)) return found(NULL);
        return well(asked(slots.get(slot), what));
    }

    private long asked(Part[] p, int what) {
        int kind = kindOf(p);
        while (BODIES[what][kind] == 0) kind = ABOVE[kind];
        return body(p, BODIES[what][kind]);
    }

    private long body(Part[] p, int body) {
        if (trace.size() < 16) trace.add(body);
        switch (body) {
            case 10: return whole(norm(p)) % 1000003;
            case 11: return 1;
            case 12: return body(p, 10) + 2;
            case 20: return 24;
            case 21: return body(p, 20) / 2;
            case 22: return body(p, 20) + asked(p, 0);
            case 23: return body(p, 22) / 5;
            case 30: {
                Part sum = p[0].plus(p[1]).plus(p[2]).plus(p[3]).by(Part.of(2));
                return sum.up.mod(BigInteger.valueOf(97)).longValueExact();
            }
            case 31: return 2 * body(p, 30);
            default: return body(p, 31) + 1;
        }
    }

    long trace(int i) {
        return below(i, trace.size()) ? trace.get(i) : WholeTurns.NONE;
    }

    long times(int to, int p, int q) {
        if (!slot(to) || !slot(p) || !slot(q)) return WholeTurns.BAD;
        if (!slots.containsKey(p) || !slots.containsKey(q)) return found(NULL);
        return kept(to, product(slots.get(p), slots.get(q)));
    }

    long sum(int to, int p, int q) {
        if (!slot(to) || !slot(p) || !slot(q)) return WholeTurns.BAD;
        if (!slots.containsKey(p) || !slots.containsKey(q)) return found(NULL);
        return kept(to, sumOf(slots.get(p), slots.get(q)));
    }

    long back(int to, int p) {
        if (!slot(to) || !slot(p)) return WholeTurns.BAD;
        if (!slots.containsKey(p)) return found(NULL);
        return kept(to, back(slots.get(p)));
    }

    long over(int to, int rest, int p, int q, int side) {
        if (!slot(to) || !slot(rest) || !slot(p) || !slot(q) || !below(side, 2)) return WholeTurns.BAD;
        if (!slots.containsKey(p) || !slots.containsKey(q)) return found(NULL);
        if (isZero(slots.get(q))) return WholeTurns.STATE;
        Part[][] both = divided(slots.get(p), slots.get(q), side);
        if (norm(both[1]).compare(norm(slots.get(q))) >= 0) throw new IllegalStateException("the rest is not less");
        kept(rest, both[1]);
        kept(to, both[0]);
        return well(whole(norm(both[1])));
    }

    long greatest(int to, int p, int q, int side) {
        if (!slot(to) || !slot(p) || !slot(q) || !below(side, 2)) return WholeTurns.BAD;
        if (!slots.containsKey(p) || !slots.containsKey(q)) return found(NULL);
        if (isZero(slots.get(p)) && isZero(slots.get(q))) return WholeTurns.STATE;
        Part[] made = greatestOf(slots.get(p), slots.get(q), side);
        kept(to, made);
        return well(whole(norm(made)));
    }

    long associate(int to, int p, int side) {
        if (!slot(to) || !slot(p) || !below(side, 2)) return WholeTurns.BAD;
        if (!slots.containsKey(p)) return found(NULL);
        return kept(to, associateOf(slots.get(p), side));
    }

    long plain(int to, int p) {
        if (!slot(to) || !slot(p)) return WholeTurns.BAD;
        if (!slots.containsKey(p)) return found(NULL);
        if (isZero(slots.get(p))) return WholeTurns.STATE;
        long divider = dividerOf(slots.get(p));
        kept(to, scaled(slots.get(p), Part.of(1).over(Part.of(divider))));
        return well(divider);
    }

    long part(int to, int p, int i) {
        if (!slot(to) || !slot(p)) return WholeTurns.BAD;
        if (!slots.containsKey(p)) return found(NULL);
        int kind = kindOf(slots.get(p));
        if (!isToo(kind, 2) || kind == 4) return WholeTurns.STATE;
        List<Part[]> parts = partsOf(slots.get(p));
        if (!below(i, parts.size())) return well(WholeTurns.NONE);
        kept(to, parts.get(i));
        return well(parts.size());
    }

    long many(int n) {
        if (n < 1 || n > 1000000) return WholeTurns.BAD;
        if (n <= 150) return LISTS.get(n).size();
        long sum = 0;
        for (int d = 1; d <= n; d += 2) if (n % d == 0) sum += d;
        return 24 * sum;
    }

    long list(int to, int n, int i) {
        if (!slot(to) || n < 1 || n > 150) return WholeTurns.BAD;
        if (!below(i, LISTS.get(n).size())) return WholeTurns.NONE;
        slots.put(to, LISTS.get(n).get(i));
        return kindOf(slots.get(to));
    }

    /** How often each number is a sum of two squares, in order, with signs. */
    private static final int[] TWO_SQUARES = twoSquares();

    private static int[] twoSquares() {
        int[] made = new int[1000001];
        for (int a = -1000; a <= 1000; a++) for (int b = -1000; b <= 1000; b++) if (a * a + b * b <= 1000000) made[a * a + b * b]++;
        return made;
    }

    long squares(int n) {
        if (n < 0 || n > 1000000) return WholeTurns.BAD;
        long sum = 0;
        for (int a = 0; a <= n; a++) sum += (long) TWO_SQUARES[a] * TWO_SQUARES[n - a];
        return sum;
    }

    long three(int n) {
        if (n < 0 || n > 1000000) return WholeTurns.BAD;
        for (int a = 0; a * a <= n; a++) if (TWO_SQUARES[n - a * a] > 0) return 1;
        return 0;
    }

    private static long told(Part part, int what) {
        return (what == 0 ? part.up : part.low).longValueExact();
    }

    long table(int p, int row, int column, int what) {
        if (!slot(p) || !below(row, 3) || !below(column, 3) || !below(what, 2)) return WholeTurns.BAD;
        if (!slots.containsKey(p)) return found(NULL);
        if (isZero(slots.get(p))) return WholeTurns.STATE;
        return well(told(tableOf(slots.get(p))[3 * row + column], what));
    }

    long turn(int p, int[] point, int k, int what) {
        if (!slot(p) || !below(k, 3) || !below(what, 2)) return WholeTurns.BAD;
        for (int number : point) if (number < -1000 || number > 1000) return WholeTurns.BAD;
        if (!slots.containsKey(p)) return found(NULL);
        if (isZero(slots.get(p))) return WholeTurns.STATE;
        return well(told(turned(slots.get(p), point[0], point[1], point[2])[k + 1], what));
    }

    long order(int p) {
        if (!slot(p)) return WholeTurns.BAD;
        if (!slots.containsKey(p)) return found(NULL);
        if (isZero(slots.get(p))) return WholeTurns.STATE;
        return well(orderOf(slots.get(p)));
    }

    long axis(int p, int k) {
        if (!slot(p) || !below(k, 3)) return WholeTurns.BAD;
        if (!slots.containsKey(p)) return found(NULL);
        if (isZero(slots.get(p))) return WholeTurns.STATE;
        long[] axis = axisOf(slots.get(p));
        return well(axis == null ? WholeTurns.NONE : axis[k]);
    }

    long alike(int p, int q) {
        if (!slot(p) || !slot(q)) return WholeTurns.BAD;
        if (!slots.containsKey(p) || !slots.containsKey(q)) return found(NULL);
        if (isZero(slots.get(p)) || isZero(slots.get(q))) return WholeTurns.STATE;
        Part[] a = tableOf(slots.get(p)), b = tableOf(slots.get(q));
        for (int at = 0; at < 9; at++) if (!a[at].is(b[at])) return well(0);
        return well(1);
    }

    long index(int p) {
        if (!slot(p)) return WholeTurns.BAD;
        if (!slots.containsKey(p)) return found(NULL);
        if (isZero(slots.get(p))) return WholeTurns.STATE;
        return well(indexOf(slots.get(p)));
    }

    long cell(int p, int k) {
        if (!slot(p) || !below(k, 6)) return WholeTurns.BAD;
        if (!slots.containsKey(p)) return found(NULL);
        if (isZero(slots.get(p))) return WholeTurns.STATE;
        if (indexOf(slots.get(p)) > 300) return WholeTurns.FULL;
        return well(cellOf(slots.get(p))[k]);
    }

    long status() {
        return status;
    }
}
