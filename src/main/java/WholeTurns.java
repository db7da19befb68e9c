/** A bench for turnings of space by fours of whole numbers, or of halves of odd ones. */
public final class WholeTurns {
    public static final int NONE = -1000000, BAD = -1000001, STATE = -1000002, FULL = -1000003;

    private static final int FINDINGS = -1000010;
    private static final int NULL = 1, PLACE = 2, KIND = 3, SIZE = 4, STORE = 5;

    private static final int FOUR = 0, HALF = 1, PLAIN = 2, PRIME = 3, UNIT = 4, KINDS = 5;
    private static final int MISSING = -1;

    private static final int SLOTS = 20, TRAYS = 8, LANES = 3, ITEMS = 100, SIDES = 2;
    private static final int LEFT = 0, RIGHT = 1;
    private static final int UNITS = 24;

    private static final long HIGHEST_NORM = 1000000000L;
    /** No number of a FOUR that may be held is further from 0: the next one's square is above four times HIGHEST_NORM. */
    private static final long HIGHEST_NUMBER = 63245L;
    private static final int HIGHEST_COUNTED = 1000000, HIGHEST_LISTED = 150, HIGHEST_CELL = 300, FURTHEST = 1000;

    /** Far above what any run of divisions needs: each rest has less than the NORM ahead of it. */
    private static final int STEPS = 1000000;
    /** Far above the number of prime numbers in anything held: a long has 63 of them at most. */
    private static final int FACTORS = 64;

    private final Tray[] trays;
    private final Four[] fours;
    private final int[] kinds;
    private final Four made;
    private final Division division;
    private final Associate associate;
    private final Greatest greatest;
    private final Parts parts;
    private final Listing listing;
    private final Table table;
    private final Cell cell;
    private final Asks asks;
    private int finding;

    public WholeTurns() {
        trays = new Tray[TRAYS];
        for (int tray = 0; tray < TRAYS; tray++) trays[tray] = new Tray();
        fours = new Four[SLOTS];
        kinds = new int[SLOTS];
        for (int slot = 0; slot < SLOTS; slot++) {
            fours[slot] = new Four();
            kinds[slot] = MISSING;
        }
        made = new Four();
        division = new Division();
        associate = new Associate();
        greatest = new Greatest();
        parts = new Parts();
        listing = new Listing();
        table = new Table();
        cell = new Cell();
        asks = new Asks();
        finding = 0;
    }

    // ---- trays

    public int tray(int tray, int lane, int n) {
        if (outside(tray, TRAYS) || outside(lane, LANES) || n > ITEMS) return BAD;
        if (n < 0) return found(SIZE);
        Tray it = trays[tray];
        if (it == null) return found(NULL);
        it.begin(lane, n);
        return answered(n);
    }

    public long set(int tray, int i, long v) {
        if (outside(tray, TRAYS)) return BAD;
        Tray it = standing(tray);
        if (it == null) return found(NULL);
        if (outside(i, it.size)) return found(PLACE);
        it.write(i, v);
        finding = 0;
        return it.item(i);
    }

    public int copy(int a, int i, int b, int j, int n) {
        if (outside(a, TRAYS) || outside(b, TRAYS)) return BAD;
        Tray from = standing(a);
        Tray to = standing(b);
        if (from == null || to == null) return found(NULL);
        if (from.lane != to.lane) return found(STORE);
        if (!from.hasRun(i, n) || !to.hasRun(j, n)) return found(PLACE);
        System.arraycopy(from.items, i, to.items, j, n);
        return answered(n);
    }

    public int drop(int tray) {
        if (outside(tray, TRAYS)) return BAD;
        Tray it = standing(tray);
        if (it == null) return found(NULL);
        it.lane = MISSING;
        return answered(it.size);
    }

    // ---- fours

    public int take(int slot, int tray, int i) {
        if (outside(slot, SLOTS) || outside(tray, TRAYS)) return BAD;
        Tray from = standing(tray);
        if (from == null) return found(NULL);
        if (!from.hasRun(i, 4)) return found(PLACE);
        made.become(from.item(i), from.item(i + 1), from.item(i + 2), from.item(i + 3));
        if (!made.isAllEven() && !made.isAllOdd()) return BAD;
        if (made.isTooGreat()) return FULL;
        return answered(keep(slot, made));
    }

    public int clear(int slot) {
        if (outside(slot, SLOTS)) return BAD;
        int was = kinds[slot] == MISSING ? 0 : 1;
        kinds[slot] = MISSING;
        return was;
    }

    public long number(int slot, int k) {
        if (outside(slot, SLOTS) || outside(k, 4)) return BAD;
        Four it = held(slot);
        if (it == null) return found(NULL);
        finding = 0;
        return it.numberAt(k);
    }

    public int norm(int slot) {
        if (outside(slot, SLOTS)) return BAD;
        Four it = held(slot);
        if (it == null) return found(NULL);
        return answered((int) it.ownNorm());
    }

    public int kind(int slot) {
        if (outside(slot, SLOTS)) return BAD;
        if (held(slot) == null) return found(NULL);
        return answered(kinds[slot]);
    }

    public int is(int slot, int kind) {
        if (outside(slot, SLOTS) || outside(kind, KINDS)) return BAD;
        if (held(slot) == null) return found(NULL);
        return answered(isToo(kinds[slot], kind) ? 1 : 0);
    }

    public int as(int slot, int kind) {
        if (outside(slot, SLOTS) || outside(kind, KINDS)) return BAD;
        Four it = held(slot);
        if (it == null) return found(NULL);
        if (!isToo(kinds[slot], kind)) return found(KIND);
        return answered((int) it.ownNorm());
    }

    public int ask(int slot, int what) {
        if (outside(slot, SLOTS) || outside(what, 3)) return BAD;
        asks.forget();
        Four it = held(slot);
        if (it == null) return found(NULL);
        if (what == 0) return answered(asks.sizeOf(it.ownNorm(), kinds[slot]));
        if (what == 1) return answered(asks.shareOf(it.ownNorm(), kinds[slot]));
        return answered(asks.markOf(it, kinds[slot]));
    }

    public int trace(int i) {
        return asks.traceAt(i);
    }

    // ---- joined

    public int times(int to, int p, int q) {
        if (outside(to, SLOTS) || outside(p, SLOTS) || outside(q, SLOTS)) return BAD;
        Four first = held(p);
        Four second = held(q);
        if (first == null || second == null) return found(NULL);
        made.becomeProduct(first, second);
        if (made.isTooGreat()) return FULL;
        return answered(keep(to, made));
    }

    public int sum(int to, int p, int q) {
        if (outside(to, SLOTS) || outside(p, SLOTS) || outside(q, SLOTS)) return BAD;
        Four first = held(p);
        Four second = held(q);
        if (first == null || second == null) return found(NULL);
        made.becomeSum(first, second);
        if (made.isTooGreat()) return FULL;
        return answered(keep(to, made));
    }

    public int back(int to, int p) {
        if (outside(to, SLOTS) || outside(p, SLOTS)) return BAD;
        Four it = held(p);
        if (it == null) return found(NULL);
        made.becomeBack(it);
        return answered(keep(to, made));
    }

    public int over(int to, int rest, int p, int q, int side) {
        if (outside(to, SLOTS) || outside(rest, SLOTS) || outside(p, SLOTS) || outside(q, SLOTS)) return BAD;
        if (outside(side, SIDES)) return BAD;
        Four upper = held(p);
        Four lower = held(q);
        if (upper == null || lower == null) return found(NULL);
        if (lower.isZero()) return STATE;
        division.divide(upper, lower, side);
        keep(rest, division.rest);
        keep(to, division.quotient);
        return answered((int) division.rest.ownNorm());
    }

    public int greatest(int to, int p, int q, int side) {
        if (outside(to, SLOTS) || outside(p, SLOTS) || outside(q, SLOTS) || outside(side, SIDES)) return BAD;
        Four first = held(p);
        Four second = held(q);
        if (first == null || second == null) return found(NULL);
        if (first.isZero() && second.isZero()) return STATE;
        greatest.seek(first, second, side);
        keep(to, greatest.result);
        return answered((int) greatest.result.ownNorm());
    }

    public int associate(int to, int p, int side) {
        if (outside(to, SLOTS) || outside(p, SLOTS) || outside(side, SIDES)) return BAD;
        Four it = held(p);
        if (it == null) return found(NULL);
        associate.seek(it, side);
        return answered(keep(to, associate.result));
    }

    public int plain(int to, int p) {
        if (outside(to, SLOTS) || outside(p, SLOTS)) return BAD;
        Four it = held(p);
        if (it == null) return found(NULL);
        if (it.isZero()) return STATE;
        long divisor = it.wholeDivisor();
        made.become(it);
        made.divideBy(divisor);
        keep(to, made);
        return answered((int) divisor);
    }

    public int part(int to, int p, int i) {
        if (outside(to, SLOTS) || outside(p, SLOTS)) return BAD;
        Four it = held(p);
        if (it == null) return found(NULL);
        if (kinds[p] != PLAIN && kinds[p] != PRIME) return STATE;
        int count = parts.split(it, i);
        if (outside(i, count)) return answered(NONE);
        keep(to, parts.wanted);
        return answered(count);
    }

    // ---- all of a norm

    public int many(int n) {
        if (n < 1 || n > HIGHEST_COUNTED) return BAD;
        return UNITS * sumOfDivisors(n, 2);
    }

    public int list(int to, int n, int i) {
        if (outside(to, SLOTS) || n < 1 || n > HIGHEST_LISTED) return BAD;
        if (outside(i, UNITS * sumOfDivisors(n, 2))) return NONE;
        if (!listing.seek(n, i)) return NONE;
        return keep(to, listing.result);
    }

    public int squares(int n) {
        if (n < 0 || n > HIGHEST_COUNTED) return BAD;
        if (n == 0) return 1;
        return 8 * sumOfDivisors(n, 4);
    }

    public int three(int n) {
        if (n < 0 || n > HIGHEST_COUNTED) return BAD;
        return withoutFactor(n, 4) % 8 == 7 ? 0 : 1;
    }

    // ---- turns

    public long table(int p, int row, int column, int what) {
        if (outside(p, SLOTS) || outside(row, 3) || outside(column, 3) || outside(what, 2)) return BAD;
        Four it = held(p);
        if (it == null) return found(NULL);
        if (it.isZero()) return STATE;
        table.fill(it);
        finding = 0;
        return inLeastTerms(table.upper(row, column), table.lower, what);
    }

    public long turn(int p, int x, int y, int z, int k, int what) {
        if (outside(p, SLOTS) || outside(k, 3) || outside(what, 2)) return BAD;
        if (tooFar(x) || tooFar(y) || tooFar(z)) return BAD;
        Four it = held(p);
        if (it == null) return found(NULL);
        if (it.isZero()) return STATE;
        table.fill(it);
        finding = 0;
        return inLeastTerms(table.turned(x, y, z, k), table.lower, what);
    }

    public int order(int p) {
        if (outside(p, SLOTS)) return BAD;
        Four it = held(p);
        if (it == null) return found(NULL);
        if (it.isZero()) return STATE;
        return answered(orderOf(it));
    }

    public int axis(int p, int k) {
        if (outside(p, SLOTS) || outside(k, 3)) return BAD;
        Four it = held(p);
        if (it == null) return found(NULL);
        if (it.isZero()) return STATE;
        return answered(axisNumber(it, k));
    }

    public int alike(int p, int q) {
        if (outside(p, SLOTS) || outside(q, SLOTS)) return BAD;
        Four first = held(p);
        Four second = held(q);
        if (first == null || second == null) return found(NULL);
        if (first.isZero() || second.isZero()) return STATE;
        return answered(first.isMultipleOf(second) ? 1 : 0);
    }

    public int index(int p) {
        if (outside(p, SLOTS)) return BAD;
        Four it = held(p);
        if (it == null) return found(NULL);
        if (it.isZero()) return STATE;
        return answered((int) it.ownIndex());
    }

    public int cell(int p, int k) {
        if (outside(p, SLOTS) || outside(k, 6)) return BAD;
        Four it = held(p);
        if (it == null) return found(NULL);
        if (it.isZero()) return STATE;
        if (it.ownIndex() > HIGHEST_CELL) return FULL;
        cell.fill(it);
        return answered(cell.numberAt(k));
    }

    public int status() {
        return finding;
    }

    // ---- what the calls share

    private static boolean outside(int number, int end) {
        return number < 0 || number >= end;
    }

    private static boolean tooFar(int number) {
        return number < -FURTHEST || number > FURTHEST;
    }

    private int found(int number) {
        finding = number;
        return FINDINGS - number;
    }

    private int answered(int answer) {
        finding = 0;
        return answer;
    }

    private Tray standing(int tray) {
        if (outside(tray, TRAYS)) return null;
        Tray it = trays[tray];
        if (it == null || it.lane == MISSING) return null;
        return it;
    }

    private Four held(int slot) {
        if (outside(slot, SLOTS) || kinds[slot] == MISSING) return null;
        return fours[slot];
    }

    private int keep(int slot, Four it) {
        if (outside(slot, SLOTS) || fours[slot] == null) return BAD;
        fours[slot].become(it);
        kinds[slot] = kindOf(it);
        return kinds[slot];
    }

    private static int kindOf(Four it) {
        if (it.isZero()) return FOUR;
        long norm = it.ownNorm();
        if (norm == 1) return UNIT;
        if (leastPrime(norm) == norm) return PRIME;
        if (it.wholeDivisor() == 1) return PLAIN;
        return it.isAllOdd() ? HALF : FOUR;
    }

    private static boolean isToo(int told, int kind) {
        if (kind == told || kind == FOUR) return true;
        return kind == PLAIN && (told == PRIME || told == UNIT);
    }

    private static int orderOf(Four it) {
        long whole = it.squareSum();
        long straight = it.w * it.w;
        if (straight == whole) return 1;
        if (straight == 0) return 2;
        if (4 * straight == whole) return 3;
        if (2 * straight == whole) return 4;
        if (4 * straight == 3 * whole) return 6;
        return NONE;
    }

    private static int axisNumber(Four it, int k) {
        long divisor = commonDivisor(commonDivisor(it.x, it.y), it.z);
        if (divisor == 0) return NONE;
        long first = it.x != 0 ? it.x : it.y != 0 ? it.y : it.z;
        long number = it.numberAt(k + 1) / divisor;
        return (int) (first < 0 ? -number : number);
    }

    private static long inLeastTerms(long upper, long lower, int what) {
        long divisor = commonDivisor(upper, lower);
        if (divisor == 0) return 0;
        return (what == 0 ? upper : lower) / divisor;
    }

    // ---- whole numbers

    private static long commonDivisor(long a, long b) {
        long greater = Math.abs(a);
        long lesser = Math.abs(b);
        for (int step = 0; step < STEPS && lesser != 0; step++) {
            long rest = greater % lesser;
            greater = lesser;
            lesser = rest;
        }
        return greater;
    }

    /** Of 1 it is 1. */
    private static long leastPrime(long n) {
        if (n % 2 == 0) return 2;
        for (long d = 3; d * d <= n; d += 2) {
            if (n % d == 0) return d;
        }
        return n;
    }

    private static long withoutFactor(long n, int factor) {
        if (factor == 0) return n;
        long left = n;
        for (int step = 0; step < FACTORS && left != 0 && left % factor == 0; step++) left /= factor;
        return left;
    }

    /** The divisors of n that the number "but" does not divide. */
    private static int sumOfDivisors(int n, int but) {
        if (but == 0) return 0;
        int sum = 0;
        for (int d = 1; d * d <= n; d++) {
            if (n % d != 0) continue;
            int other = n / d;
            if (d % but != 0) sum += d;
            if (other != d && other % but != 0) sum += other;
        }
        return sum;
    }

    /** A TRAY's place; its row of ITEMS is made once, as long as any may be. */
    private static final class Tray {
        final long[] items;
        int lane;
        int size;

        Tray() {
            items = new long[ITEMS];
            lane = MISSING;
            size = 0;
        }

        void begin(int newLane, int n) {
            lane = newLane;
            size = n;
            for (int i = 0; i < items.length; i++) items[i] = 0;
        }

        boolean hasRun(int from, int n) {
            return from >= 0 && n >= 0 && n <= size && from <= size - n;
        }

        long item(int i) {
            return i < 0 || i >= items.length ? 0 : items[i];
        }

        void write(int i, long v) {
            if (i < 0 || i >= items.length) return;
            items[i] = lane == 0 ? (byte) v : lane == 1 ? (int) v : v;
        }
    }

    /** Four numbers, each told twice as great as it is; made once and filled again and again. */
    private static final class Four {
        long w, x, y, z;

        void become(long newW, long newX, long newY, long newZ) {
            w = newW;
            x = newX;
            y = newY;
            z = newZ;
        }

        void become(Four it) {
            become(it.w, it.x, it.y, it.z);
        }

        void becomeSum(Four p, Four q) {
            become(p.w + q.w, p.x + q.x, p.y + q.y, p.z + q.z);
        }

        void becomeDifference(Four p, Four q) {
            become(p.w - q.w, p.x - q.x, p.y - q.y, p.z - q.z);
        }

        void becomeBack(Four p) {
            become(p.w, -p.x, -p.y, -p.z);
        }

        /** Both factors are told twice as great, so the products come four times as great. */
        void becomeProduct(Four p, Four q) {
            long newW = p.w * q.w - p.x * q.x - p.y * q.y - p.z * q.z;
            long newX = p.w * q.x + p.x * q.w + p.y * q.z - p.z * q.y;
            long newY = p.w * q.y - p.x * q.z + p.y * q.w + p.z * q.x;
            long newZ = p.w * q.z + p.x * q.y - p.y * q.x + p.z * q.w;
            become(newW / 2, newX / 2, newY / 2, newZ / 2);
        }

        /** The 16 of halves, told by the bits of k, then the 8 of whole numbers. */
        void becomeUnit(int k) {
            if (k < 16) {
                become(1 - (k & 2), 1 - (k >> 1 & 2), 1 - (k >> 2 & 2), 1 - (k << 1 & 2));
                return;
            }
            int place = k - 16 >> 1;
            long number = (k & 1) == 0 ? 2 : -2;
            become(place == 0 ? number : 0, place == 1 ? number : 0, place == 2 ? number : 0, place == 3 ? number : 0);
        }

        void divideBy(long divisor) {
            if (divisor == 0) return;
            become(w / divisor, x / divisor, y / divisor, z / divisor);
        }

        long numberAt(int k) {
            return k == 0 ? w : k == 1 ? x : k == 2 ? y : z;
        }

        long squareSum() {
            return w * w + x * x + y * y + z * z;
        }

        long ownNorm() {
            return squareSum() / 4;
        }

        boolean isZero() {
            return w == 0 && x == 0 && y == 0 && z == 0;
        }

        boolean isAllEven() {
            return ((w | x | y | z) & 1) == 0;
        }

        boolean isAllOdd() {
            return (w & x & y & z & 1) == 1;
        }

        /** The numbers are looked at one by one first: the squares of any longs would not fit. */
        boolean isTooGreat() {
            if (isFar(w) || isFar(x) || isFar(y) || isFar(z)) return true;
            return ownNorm() > HIGHEST_NORM;
        }

        private static boolean isFar(long number) {
            return number < -HIGHEST_NUMBER || number > HIGHEST_NUMBER;
        }

        boolean isLessThan(Four it) {
            if (w != it.w) return w < it.w;
            if (x != it.x) return x < it.x;
            if (y != it.y) return y < it.y;
            return z < it.z;
        }

        boolean isMultipleOf(Four it) {
            return w * it.x == x * it.w && w * it.y == y * it.w && w * it.z == z * it.w
                && x * it.y == y * it.x && x * it.z == z * it.x && y * it.z == z * it.y;
        }

        long numbersDivisor() {
            return commonDivisor(commonDivisor(w, x), commonDivisor(y, z));
        }

        /** The numbers told by their divisor may be even and odd ones: then these are no FOUR, but twice as great ones are. */
        long wholeDivisor() {
            long divisor = numbersDivisor();
            if (divisor == 0) return 0;
            boolean allOdd = (w / divisor & x / divisor & y / divisor & z / divisor & 1) == 1;
            return allOdd ? divisor : divisor / 2;
        }

        long ownIndex() {
            long divisor = wholeDivisor();
            if (divisor == 0) return 0;
            return withoutFactor(ownNorm() / divisor / divisor, 2);
        }
    }

    /** p OVER q. */
    private static final class Division {
        final Four quotient, rest;
        private final Four fraction, halves;

        Division() {
            quotient = new Four();
            rest = new Four();
            fraction = new Four();
            halves = new Four();
        }

        void divide(Four p, Four q, int side) {
            fraction.becomeBack(q);
            if (side == LEFT) fraction.becomeProduct(fraction, p);
            else fraction.becomeProduct(p, fraction);
            long lower = q.ownNorm();
            // In least terms the squares of what lies between fit a long, for a prime number as q, too.
            long divisor = commonDivisor(fraction.numbersDivisor(), lower);
            if (divisor == 0) return;
            fraction.divideBy(divisor);
            roundFraction(lower / divisor);
            if (side == LEFT) rest.becomeProduct(q, quotient);
            else rest.becomeProduct(quotient, q);
            rest.becomeDifference(p, rest);
        }

        private void roundFraction(long lower) {
            if (lower == 0) return;
            Four u = fraction;
            quotient.become(nearest(u.w, lower), nearest(u.x, lower), nearest(u.y, lower), nearest(u.z, lower));
            halves.become(half(u.w, lower), half(u.x, lower), half(u.y, lower), half(u.z, lower));
            if (between(quotient, lower) > between(halves, lower)) quotient.become(halves);
        }

        private static long nearest(long upper, long lower) {
            return lower == 0 ? 0 : 2 * Math.floorDiv(upper + lower, 2 * lower);
        }

        private static long half(long upper, long lower) {
            return lower == 0 ? 0 : 2 * Math.floorDiv(upper, 2 * lower) + 1;
        }

        private long between(Four t, long lower) {
            long dw = fraction.w - t.w * lower;
            long dx = fraction.x - t.x * lower;
            long dy = fraction.y - t.y * lower;
            long dz = fraction.z - t.z * lower;
            return dw * dw + dx * dx + dy * dy + dz * dz;
        }
    }

    /** The ASSOCIATE of a FOUR. */
    private static final class Associate {
        final Four result;
        private final Four unit, product;

        Associate() {
            result = new Four();
            unit = new Four();
            product = new Four();
        }

        void seek(Four p, int side) {
            result.become(p);
            for (int k = 0; k < UNITS; k++) {
                unit.becomeUnit(k);
                if (side == LEFT) product.becomeProduct(unit, p);
                else product.becomeProduct(p, unit);
                if (result.isLessThan(product)) result.become(product);
            }
        }
    }

    /** GREATEST of two FOURS. */
    private static final class Greatest {
        final Four result;
        private final Four first, second;
        private final Division division;
        private final Associate associate;

        Greatest() {
            result = new Four();
            first = new Four();
            second = new Four();
            division = new Division();
            associate = new Associate();
        }

        void seek(Four p, Four q, int side) {
            first.become(p);
            second.become(q);
            for (int step = 0; step < STEPS && !second.isZero(); step++) {
                division.divide(first, second, side);
                first.become(second);
                second.become(division.rest);
            }
            associate.seek(first, side == LEFT ? RIGHT : LEFT);
            result.become(associate.result);
        }
    }

    /** PARTS of a PLAIN FOUR. */
    private static final class Parts {
        final Four wanted;
        private final Four left, whole, mirrored;
        private final Greatest greatest;

        Parts() {
            wanted = new Four();
            left = new Four();
            whole = new Four();
            mirrored = new Four();
            greatest = new Greatest();
        }

        /** How many parts there are; part i, if there is one, is the one wanted. */
        int split(Four p, int i) {
            left.become(p);
            long norm = p.ownNorm();
            int count = 0;
            for (int step = 0; step < FACTORS && norm > 1; step++) {
                long prime = leastPrime(norm);
                if (prime < 2) break;
                norm /= prime;
                splitOff(prime);
                if (count == i) wanted.become(greatest.result);
                count++;
            }
            if (count == i) wanted.become(left);
            return count + 1;
        }

        private void splitOff(long prime) {
            whole.become(2 * prime, 0, 0, 0);
            greatest.seek(left, whole, LEFT);
            mirrored.becomeBack(greatest.result);
            left.becomeProduct(mirrored, left);
            left.divideBy(prime);
        }
    }

    /** All FOURS of a NORM, the least first. */
    private static final class Listing {
        final Four result;
        private final int[] roots;
        private int ahead;

        Listing() {
            result = new Four();
            roots = new int[4 * HIGHEST_LISTED + 1];
            int root = 0;
            for (int n = 0; n < roots.length; n++) {
                if ((root + 1) * (root + 1) <= n) root++;
                roots[n] = root;
            }
            ahead = 0;
        }

        boolean seek(int n, int i) {
            ahead = i;
            int whole = 4 * n;
            int end = root(whole);
            for (int w = -end; w <= end; w++) {
                int left = whole - w * w;
                int endX = root(left);
                for (int x = -endX; x <= endX; x++) {
                    if ((w + x & 1) == 0 && seekBehind(w, x, left - x * x)) return true;
                }
            }
            return false;
        }

        /** With three even numbers, or three odd ones, ahead the fourth one is such, too. */
        private boolean seekBehind(int w, int x, int left) {
            int endY = root(left);
            for (int y = -endY; y <= endY; y++) {
                if ((x + y & 1) != 0) continue;
                int z = root(left - y * y);
                if (z * z != left - y * y) continue;
                if (isReached(w, x, y, -z)) return true;
                if (z != 0 && isReached(w, x, y, z)) return true;
            }
            return false;
        }

        private boolean isReached(int w, int x, int y, int z) {
            if (ahead == 0) {
                result.become(w, x, y, z);
                return true;
            }
            ahead--;
            return false;
        }

        private int root(int n) {
            return n < 0 || n >= roots.length ? 0 : roots[n];
        }
    }

    /** The TABLE of a FOUR: whole numbers, all by the same lower one. */
    private static final class Table {
        long lower;
        private final long[] uppers;

        Table() {
            uppers = new long[9];
            lower = 1;
        }

        void fill(Four p) {
            lower = p.squareSum();
            long ww = p.w * p.w, xx = p.x * p.x, yy = p.y * p.y, zz = p.z * p.z;
            long wx = p.w * p.x, wy = p.w * p.y, wz = p.w * p.z;
            long xy = p.x * p.y, xz = p.x * p.z, yz = p.y * p.z;
            uppers[0] = ww + xx - yy - zz;
            uppers[1] = 2 * (xy - wz);
            uppers[2] = 2 * (xz + wy);
            uppers[3] = 2 * (xy + wz);
            uppers[4] = ww - xx + yy - zz;
            uppers[5] = 2 * (yz - wx);
            uppers[6] = 2 * (xz - wy);
            uppers[7] = 2 * (yz + wx);
            uppers[8] = ww - xx - yy + zz;
        }

        long upper(int row, int column) {
            if (outside(row, 3) || outside(column, 3)) return 0;
            return uppers[3 * row + column];
        }

        long turned(long x, long y, long z, int row) {
            return upper(row, 0) * x + upper(row, 1) * y + upper(row, 2) * z;
        }

        /** The point that is turned into this one has whole numbers, too: turned back, rows are columns. */
        boolean isCommon(long x, long y, long z) {
            if (lower == 0) return false;
            for (int column = 0; column < 3; column++) {
                long back = upper(0, column) * x + upper(1, column) * y + upper(2, column) * z;
                if (back % lower != 0) return false;
            }
            return true;
        }
    }

    /** CELL, for an INDEX up to HIGHEST_CELL: a times c times f is INDEX, so none of them is above it. */
    private static final class Cell {
        private final Table table;
        private int a, b, c, d, e, f;

        Cell() {
            table = new Table();
        }

        void fill(Four p) {
            table.fill(p);
            seekFirst();
            seekSecond();
            seekThird();
        }

        int numberAt(int k) {
            return k == 0 ? a : k == 1 ? b : k == 2 ? c : k == 3 ? d : k == 4 ? e : f;
        }

        private void seekFirst() {
            for (int x = 1; x <= HIGHEST_CELL; x++) {
                if (!table.isCommon(x, 0, 0)) continue;
                a = x;
                return;
            }
        }

        private void seekSecond() {
            for (int y = 1; y <= HIGHEST_CELL; y++) {
                for (int x = 0; x < a; x++) {
                    if (!table.isCommon(x, y, 0)) continue;
                    b = x;
                    c = y;
                    return;
                }
            }
        }

        private void seekThird() {
            for (int z = 1; z <= HIGHEST_CELL; z++) {
                for (int y = 0; y < c; y++) {
                    for (int x = 0; x < a; x++) {
                        if (!table.isCommon(x, y, z)) continue;
                        d = x;
                        e = y;
                        f = z;
                        return;
                    }
                }
            }
        }
    }

    /** The ASKS and THE TRACE that their BODIES leave. */
    private static final class Asks {
        private final int[] traces;
        private int count;

        Asks() {
            traces = new int[16];
            count = 0;
        }

        void forget() {
            count = 0;
        }

        int traceAt(int i) {
            return i < 0 || i >= count || i >= traces.length ? NONE : traces[i];
        }

        private void begin(int body) {
            if (count < 0 || count >= traces.length) return;
            traces[count] = body;
            count++;
        }

        int sizeOf(long norm, int kind) {
            if (kind == UNIT) return unitSize();
            if (kind == PRIME) return primeSize(norm);
            return lentSize(norm);
        }

        private int lentSize(long norm) {
            begin(10);
            return (int) (norm % 1000003);
        }

        private int unitSize() {
            begin(11);
            return 1;
        }

        private int primeSize(long norm) {
            begin(12);
            return lentSize(norm) + 2;
        }

        int shareOf(long norm, int kind) {
            if (kind == UNIT) return unitShare(norm, kind);
            if (kind == PLAIN || kind == PRIME) return plainShare(norm, kind);
            if (kind == HALF) return halfShare();
            return fourShare();
        }

        private int fourShare() {
            begin(20);
            return 24;
        }

        private int halfShare() {
            begin(21);
            return fourShare() / 2;
        }

        private int plainShare(long norm, int kind) {
            begin(22);
            int share = fourShare();
            return share + sizeOf(norm, kind);
        }

        private int unitShare(long norm, int kind) {
            begin(23);
            return plainShare(norm, kind) / 5;
        }

        int markOf(Four it, int kind) {
            if (kind == PRIME) return primeMark(it);
            if (kind == PLAIN || kind == UNIT) return plainMark(it);
            return lentMark(it);
        }

        private int lentMark(Four it) {
            begin(30);
            return (int) Math.floorMod(it.w + it.x + it.y + it.z, 97L);
        }

        private int plainMark(Four it) {
            begin(31);
            return 2 * lentMark(it);
        }

        private int primeMark(Four it) {
            begin(32);
            return plainMark(it) + 1;
        }
    }
}
