import java.util.Arrays;

/** Sentences of the document that tell a call by others, or by its words alone: both ways must come to the same. */
final class ByOtherCalls {
    private static final int P = 0, Q = 1, ONE = 19;
    /** FOURS of all KINDS, some near the greatest NORM. */
    private static final long[][] SOME = {
        {2, 0, 0, 0}, {0, 0, -2, 0}, {1, -1, 1, 1}, {2, 2, 0, 0}, {3, 1, 1, 1}, {4, 2, 0, 0}, {2, 4, 6, 8}, {-2, 4, -6, 8}, {4, 4, 4, 0},
        {6, 2, 2, 2}, {3, 3, 3, 3}, {9, -3, 3, 3}, {1, 1, 3, 5}, {5, 3, 1, 1}, {-7, 1, 3, 5}, {33, 1, 9, 5}, {0, 6, -2, 8}, {12, 4, 6, 2},
        {100, 60, 20, 4}, {-1001, 333, 71, 9}, {0, 60000, 20000, 0}, {62001, 3, 5, 7}, {31621, -31621, 31621, 31621}, {55670, 0, 224, 406}};

    private ByOtherCalls() {
    }

    private static String told(long[] four) {
        return four[0] + " " + four[1] + " " + four[2] + " " + four[3];
    }

    private static long[] numbers(WholeTurns x, int slot) {
        return new long[] {x.number(slot, 0), x.number(slot, 1), x.number(slot, 2), x.number(slot, 3)};
    }

    /** p in SLOT 0, q in SLOT 1, 1 in SLOT 19. */
    private static WholeTurns pair(long[] p, long[] q) {
        WholeTurns x = Due.with(p[0], p[1], p[2], p[3]);
        Due.put(x, Q, q[0], q[1], q[2], q[3]);
        Due.put(x, ONE, 2, 0, 0, 0);
        return x;
    }

    private static boolean isFour(long... four) {
        int odd = 0;
        for (long number : four) odd += number & 1;
        return odd == 0 || odd == 4;
    }

    interface Each {
        void of(long[] four);
    }

    /** All FOURS whose numbers are told by -end to end. */
    private static void walk(int end, Each each) {
        for (long w = -end; w <= end; w++) {
            for (long i = -end; i <= end; i++) {
                for (long j = -end; j <= end; j++) {
                    for (long k = -end; k <= end; k++) if (isFour(w, i, j, k)) each.of(new long[] {w, i, j, k});
                }
            }
        }
    }

    // ---- trays

    /** The lowest bits, read with their sign: a LANE's numbers go round. */
    static void promise03_lowestBitsOfMany(Due due) {
        WholeTurns x = new WholeTurns();
        x.tray(0, 0, 1);
        x.tray(1, 1, 1);
        for (int v = -200; v <= 200; v += 2) {
            due.is("set(0, 0, " + v + ")", x.set(0, 0, v), Math.floorMod(v + 128, 256) - 128);
            long far = 2147483648L + v;
            due.is("set(1, 0, " + far + ")", x.set(1, 0, far), Math.floorMod(far + (1L << 31), 1L << 32) - (1L << 31));
        }
    }

    // ---- fours

    static void promise09_squaresOfItsNumbers(Due due) {
        walk(4, four -> {
            long squares = 0;
            for (long number : four) squares += number * number;
            due.is("norm(0) of " + told(four), Due.with(four[0], four[1], four[2], four[3]).norm(P), squares / 4);
        });
    }

    /** The KIND by its words: whole numbers are tried as divisors, and the NORM's own divisors are counted. */
    static void promise10_byItsWords(Due due) {
        walk(6, four -> {
            int norm = 0;
            for (long number : four) norm += number * number;
            norm /= 4;
            boolean plain = greatestDivisor(four) == 1;
            int kind = plain && norm == 1 ? 4 : plain && isPrime(norm) ? 3 : plain ? 2 : (four[0] & 1) == 1 ? 1 : 0;
            due.is("kind(0) of " + told(four), Due.with(four[0], four[1], four[2], four[3]).kind(P), kind);
        });
    }

    private static boolean isPrime(int n) {
        int divisors = 0;
        for (int d = 1; d <= n; d++) if (n % d == 0) divisors++;
        return divisors == 2;
    }

    /** Of small FOURS: the greatest whole number that divides it into a FOUR; of 0 it is none, told as 0. */
    private static long greatestDivisor(long[] four) {
        if (Arrays.equals(four, new long[4])) return 0;
        for (long d = 40; d > 1; d--) {
            long by = d;
            boolean whole = Arrays.stream(four).allMatch(number -> number % by == 0);
            if (whole && isFour(four[0] / d, four[1] / d, four[2] / d, four[3] / d)) return d;
        }
        return 1;
    }

    // ---- joined

    /** What i times j is, and so on, from 1 on: 1, i, j, k are 1 to 4, less than 0 if it is less than 0. */
    private static final int[][] UNIT_TIMES = {{1, 2, 3, 4}, {2, -1, 4, -3}, {3, -4, -1, 2}, {4, 3, -2, -1}};

    static void promise15_eachNumberTimesEach(Due due) {
        for (long[] p : SOME) {
            for (long[] q : new long[][] {{2, 0, 0, 0}, {1, 1, -1, 1}, {3, 1, 1, 1}, {-2, 4, 0, 6}, {0, 0, 2, 2}}) {
                WholeTurns x = pair(p, q);
                long[] want = new long[4];
                for (int i = 0; i < 4; i++) {
                    for (int j = 0; j < 4; j++) want[Math.abs(UNIT_TIMES[i][j]) - 1] += Integer.signum(UNIT_TIMES[i][j]) * p[i] * q[j];
                }
                long norm = 0;
                for (int k = 0; k < 4; k++) norm += want[k] / 2 * (want[k] / 2);
                long answer = x.times(2, P, Q);
                if (norm / 4 > 1000000000) due.is("times of " + told(p) + " and " + told(q), answer, Due.FULL);
                else due.numbers(x, 2, want[0] / 2, want[1] / 2, want[2] / 2, want[3] / 2);
            }
        }
    }

    /** Each number of u, as a fraction by a lower one, is held against e and f by the words of OVER. */
    static void promise18_byItsWords(Due due) {
        long[][] lowers = {{1, 1, 1, 1}, {2, 2, 0, 0}, {3, 1, 1, 1}, {4, 0, 0, 0}, {-2, 4, 6, 8}, {0, 0, 0, 10}, {5, -3, 1, 1}};
        for (long[] q : lowers) {
            walk(3, p -> overByItsWords(due, p, q));
            for (long[] p : SOME) overByItsWords(due, p, q);
        }
    }

    private static void overByItsWords(Due due, long[] p, long[] q) {
        for (int side = 0; side < 2; side++) {
            long[] back = {q[0], -q[1], -q[2], -q[3]};
            long[] upper = side == 0 ? product(back, p) : product(p, back);
            long lower = 4 * norm(q);
            long[] t = nearestOf(upper, lower);
            String call = "over(2, 3, 0, 1, " + side + ") of " + told(p) + " by " + told(q);
            WholeTurns x = pair(p, q);
            long answer = x.over(2, 3, P, Q, side);
            long[] whole = side == 0 ? product(q, t) : product(t, q);
            long[] rest = new long[4];
            for (int k = 0; k < 4; k++) rest[k] = p[k] - whole[k] / 2;
            due.is(call, answer, norm(rest));
            due.holds(call + ": less than q's", answer < norm(q));
            for (int k = 0; k < 4; k++) due.is(call + ": number(2, " + k + ")", x.number(2, k), t[k]);
            for (int k = 0; k < 4; k++) due.is(call + ": number(3, " + k + ")", x.number(3, k), rest[k]);
        }
    }

    /** Four times as great as it is, of two FOURS told twice as great. */
    private static long[] product(long[] p, long[] q) {
        long[] product = new long[4];
        for (int i = 0; i < 4; i++) {
            for (int j = 0; j < 4; j++) product[Math.abs(UNIT_TIMES[i][j]) - 1] += Integer.signum(UNIT_TIMES[i][j]) * p[i] * q[j];
        }
        return product;
    }

    private static long norm(long[] four) {
        long squares = 0;
        for (long number : four) squares += number * number;
        return squares / 4;
    }

    /** t, told twice as great, of the fractions upper by lower. */
    private static long[] nearestOf(long[] upper, long lower) {
        long[] e = new long[4], f = new long[4];
        long betweenE = 0, betweenF = 0;
        for (int k = 0; k < 4; k++) {
            long below = upper[k] / lower - 1;
            while ((below + 1) * lower <= upper[k]) below++;
            long from = upper[k] - below * lower;
            e[k] = 2 * (2 * from >= lower ? below + 1 : below);
            f[k] = 2 * below + 1;
            betweenE += square(2 * upper[k] - e[k] * lower);
            betweenF += square(2 * upper[k] - f[k] * lower);
        }
        return betweenE <= betweenF ? e : f;
    }

    private static long square(long number) {
        return number * number;
    }

    /** p, q become q and the rest of p OVER q, till q is 0; then the ASSOCIATE of p to the other side. */
    static void promise19_byItsSteps(Due due) {
        for (long[] p : SOME) {
            for (long[] q : SOME) {
                for (int side = 0; side < 2; side++) {
                    WholeTurns x = pair(p, q);
                    long norm = x.greatest(2, P, Q, side);
                    for (int step = 0; step < 60 && x.norm(Q) != 0; step++) {
                        x.over(4, 5, P, Q, side);
                        x.times(P, Q, ONE);
                        x.times(Q, 5, ONE);
                    }
                    x.associate(6, P, 1 - side);
                    long[] want = numbers(x, 6);
                    due.is("greatest(2, 0, 1, " + side + ") of " + told(p) + " and " + told(q), norm, x.norm(6));
                    due.numbers(x, 2, want[0], want[1], want[2], want[3]);
                }
            }
        }
    }

    /** Any other whole number that divides it is less. */
    static void promise21_byItsWords(Due due) {
        walk(6, four -> {
            WholeTurns x = Due.with(four[0], four[1], four[2], four[3]);
            long divisor = greatestDivisor(four);
            due.is("plain(1, 0) of " + told(four), x.plain(1, P), divisor == 0 ? Due.STATE : divisor);
            if (divisor != 0) due.numbers(x, 1, four[0] / divisor, four[1] / divisor, four[2] / divisor, four[3] / divisor);
        });
    }

    /** For each prime number l of the NORM, rising: GREATEST of what is left and l, side 0; then left is BACK of it times left, by l. */
    static void promise22_byItsSteps(Due due) {
        for (long[] p : SOME) {
            WholeTurns x = Due.with(p[0], p[1], p[2], p[3]);
            x.plain(P, P);
            long n = x.norm(P);
            if (n == 1) continue;
            x.plain(1, P);
            int count = 0;
            for (long l = 2; l * l <= 1000000000 && n > 1; l++) {
                for (; n % l == 0; n /= l) partByItsSteps(due, x, l, count++);
            }
            if (n > 1) partByItsSteps(due, x, n, count++);
            due.is("part(2, 0, " + count + ") of " + told(p), x.part(2, P, count), count + 1);
            long[] left = numbers(x, 1);
            due.numbers(x, 2, left[0], left[1], left[2], left[3]);
            due.is("a UNIT is left", x.kind(2), 4);
        }
    }

    /** What is left is in SLOT 1. An l whose NORM can't be held is its NORM: then l is it times its BACK, and GREATEST its ASSOCIATE. */
    private static void partByItsSteps(Due due, WholeTurns x, long l, int i) {
        if (Due.put(x, 3, 2 * l, 0, 0, 0) >= 0) x.greatest(4, 1, 3, 0);
        else x.associate(4, 1, 1);
        due.is("NORM of part " + i, x.norm(4), l);
        due.holds("part(2, 0, " + i + ")", x.part(2, P, i) > i);
        long[] part = numbers(x, 4);
        due.numbers(x, 2, part[0], part[1], part[2], part[3]);
        due.is("kind of part " + i, x.kind(2), 3);
        x.back(5, 4);
        long[] product = product(numbers(x, 5), numbers(x, 1));
        Due.put(x, 1, product[0] / 2 / l, product[1] / 2 / l, product[2] / 2 / l, product[3] / 2 / l);
    }

    // ---- turns

    /** Row r, column c: what TURN makes of the c-th of 1 0 0, 0 1 0, 0 0 1, at r. */
    static void promise27_whatTurnMakesOfThreePoints(Due due) {
        for (long[] p : SOME) {
            WholeTurns x = pair(p, p);
            for (int row = 0; row < 3; row++) {
                for (int column = 0; column < 3; column++) {
                    for (int what = 0; what < 2; what++) {
                        long made = x.turn(P, column == 0 ? 1 : 0, column == 1 ? 1 : 0, column == 2 ? 1 : 0, row, what);
                        due.is("table(0, " + row + ", " + column + ", " + what + ") of " + told(p), x.table(P, row, column, what), made);
                    }
                }
            }
        }
    }

    /** p v BACK of p, by the NORM of p: as fractions alike, and the lower number above 0 and in least terms. */
    static void promise28_pTimesThePointTimesBack(Due due) {
        int[][] points = {{1, 0, 0}, {0, -1, 0}, {0, 0, 1}, {1, 2, 3}, {-7, 5, 11}, {15, -30, 45}, {12, 0, -9}};
        for (long[] p : SOME) {
            for (int[] point : points) {
                long[] v = {0, 2L * point[0], 2L * point[1], 2L * point[2]};
                if (norm(p) * norm(v) > 1000000000 / norm(p)) continue;
                WholeTurns x = pair(p, v);
                x.times(2, P, Q);
                x.back(3, P);
                x.times(2, 2, 3);
                due.is("no number beside x, y, z", x.number(2, 0), 0);
                for (int k = 0; k < 3; k++) turnIs(due, x, point, k, x.number(2, k + 1), 2L * x.norm(P));
            }
        }
    }

    private static void turnIs(Due due, WholeTurns x, int[] point, int k, long upper, long lower) {
        long divisor = Math.abs(upper);
        for (long rest = lower; rest != 0; ) {
            long next = divisor % rest;
            divisor = rest;
            rest = next;
        }
        String call = "turn(0, " + point[0] + ", " + point[1] + ", " + point[2] + ", " + k + ", ";
        due.is(call + "0)", x.turn(P, point[0], point[1], point[2], k, 0), upper / divisor);
        due.is(call + "1)", x.turn(P, point[0], point[1], point[2], k, 1), lower / divisor);
    }

    /** Done so often, and not more seldom, it turns as 1 does; if it is never so, six times are not enough, nor twelve. */
    static void promise29_doneSoOften(Due due) {
        walk(3, four -> {
            if (Arrays.equals(four, new long[4])) return;
            WholeTurns x = pair(four, four);
            int first = 0;
            for (int times = 1; times <= 12 && first == 0; times++) {
                if (x.alike(Q, ONE) == 1) first = times;
                x.times(Q, Q, P);
                x.plain(Q, Q);
            }
            due.is("order(0) of " + told(four), x.order(P), first == 0 ? Due.NONE : first);
        });
    }

    /** The point stays where it was, has no common divisor, and begins above 0. */
    static void promise30_itsPointStays(Due due) {
        for (long[] p : SOME) {
            WholeTurns x = pair(p, p);
            if (x.order(P) == 1) continue;
            int[] point = {x.axis(P, 0), x.axis(P, 1), x.axis(P, 2)};
            if (Math.max(Math.abs(point[0]), Math.max(Math.abs(point[1]), Math.abs(point[2]))) > 1000) continue;
            for (int k = 0; k < 3; k++) {
                due.is("turn of the axis of " + told(p), x.turn(P, point[0], point[1], point[2], k, 0), point[k]);
                due.is("turn of the axis of " + told(p) + ", lower", x.turn(P, point[0], point[1], point[2], k, 1), 1);
            }
            int first = point[0] != 0 ? point[0] : point[1] != 0 ? point[1] : point[2];
            due.holds("begins above 0: " + told(p), first > 0);
            for (int d = 2; d <= 1000; d++) due.holds(d + " does not divide it", point[0] % d != 0 || point[1] % d != 0 || point[2] % d != 0);
        }
    }

    /** They TURN alike if all points come alike: if the TABLES are the same. */
    static void promise31_asTheTables(Due due) {
        for (long[] p : SOME) {
            for (long[] q : SOME) {
                WholeTurns x = pair(p, q);
                boolean same = true;
                for (int at = 0; at < 18; at++) same &= x.table(P, at / 6, at / 2 % 3, at % 2) == x.table(Q, at / 6, at / 2 % 3, at % 2);
                due.is("alike(0, 1) of " + told(p) + " and " + told(q), x.alike(P, Q), same ? 1 : 0);
            }
        }
    }

    /** Divided as plain() does; then of its NORM what is left without factors 2. */
    static void promise32_oddPartOfThePlainNorm(Due due) {
        for (long[] p : SOME) indexIs(due, p);
        walk(4, p -> {
            if (!Arrays.equals(p, new long[4])) indexIs(due, p);
        });
    }

    private static void indexIs(Due due, long[] p) {
        WholeTurns x = pair(p, p);
        x.plain(2, P);
        long odd = x.norm(2);
        while (odd % 2 == 0) odd /= 2;
        due.is("index(0) of " + told(p), x.index(P), odd);
    }

    /** In a box, points with whole numbers that are made of points with whole numbers: sums of the three, and no others. */
    static void promise33_pointsMadeOfWholeOnes(Due due) {
        for (long[] p : new long[][] {{3, 1, 1, 1}, {4, 2, 0, 0}, {2, 2, 2, 0}, {4, 2, 2, 6}, {6, 2, 2, 2}}) {
            WholeTurns x = pair(p, p);
            long[] cell = new long[6];
            for (int k = 0; k < 6; k++) cell[k] = x.cell(P, k);
            int most = 12, common = 0;
            for (int i = -most; i <= most; i++) {
                for (int j = -most; j <= most; j++) {
                    for (int k = -most; k <= most; k++) common += madeOf(due, p, cell, i, j, k);
                }
            }
            due.is("how many of the box of " + told(p), common, inTheBox(cell, p, most));
        }
    }

    /** Whether what TURN makes of the point has whole numbers: then the CELL must tell it. */
    private static int madeOf(Due due, long[] p, long[] cell, long i, long j, long k) {
        long[] made = product(product(p, new long[] {0, i, j, k}), new long[] {p[0], -p[1], -p[2], -p[3]});
        long lower = 4 * norm(p);
        if (made[1] % lower != 0 || made[2] % lower != 0 || made[3] % lower != 0) return 0;
        due.holds("made of " + i + " " + j + " " + k + " by " + told(p), isSum(cell, made[1] / lower, made[2] / lower, made[3] / lower));
        return 1;
    }

    private static boolean isSum(long[] cell, long i, long j, long k) {
        if (k % cell[5] != 0) return false;
        long third = k / cell[5];
        if ((j - third * cell[4]) % cell[2] != 0) return false;
        long second = (j - third * cell[4]) / cell[2];
        return (i - third * cell[3] - second * cell[1]) % cell[0] == 0;
    }

    /** How many sums of the three are made of points of the box, by turning each sum back. */
    private static int inTheBox(long[] cell, long[] p, int most) {
        int count = 0;
        int far = 2 * most;
        for (long k = -far; k <= far; k++) {
            for (long j = -far; j <= far; j++) {
                for (long i = -far; i <= far; i++) if (isSum(cell, i, j, k) && comesFromTheBox(p, most, i, j, k)) count++;
            }
        }
        return count;
    }

    private static boolean comesFromTheBox(long[] p, int most, long i, long j, long k) {
        long[] made = product(product(new long[] {p[0], -p[1], -p[2], -p[3]}, new long[] {0, i, j, k}), p);
        long lower = 4 * norm(p);
        for (int at = 1; at < 4; at++) if (made[at] % lower != 0 || Math.abs(made[at] / lower) > most) return false;
        return true;
    }
}
