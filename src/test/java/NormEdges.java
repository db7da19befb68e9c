/** The boundary cases of promises 23 to 26, a test for each: all of a NORM. */
final class NormEdges {
    private static final int MIN = Integer.MIN_VALUE, MAX = Integer.MAX_VALUE;
    private static final Bench.End NONE = call -> call.refuses(Due.NONE);

    private NormEdges() {
    }

    /** These calls leave status() and all else as it was, with an answer too. */
    private static void tells(Due due, String format, Bench.Numbered call, int number, long answer) {
        Bench.of(due, String.format(format, number), x -> call.on(x, number)).refuses(answer);
    }

    // ---- promise 23

    static void promise23_leastNorm(Due due) {
        tells(due, "many(%d)", (x, n) -> x.many(n), 1, 24);
        Bench.outside(due, "many(%d)", (x, n) -> x.many(n), Bench.BAD, 0, -1, MIN);
    }

    static void promise23_greatestNorm(Due due) {
        tells(due, "many(%d)", (x, n) -> x.many(n), 1000000, 468744);
        tells(due, "many(%d)", (x, n) -> x.many(n), 999999, 24 * 2042880);
        Bench.outside(due, "many(%d)", (x, n) -> x.many(n), Bench.BAD, 1000001, 1000002, MAX);
    }

    static void promise23_powersOfTwo(Due due) {
        for (int n = 1; n <= 524288; n *= 2) due.is("many(" + n + ")", new WholeTurns().many(n), 24);
    }

    static void promise23_squaresOfPrimeNumbers(Due due) {
        WholeTurns x = new WholeTurns();
        due.is("many(9)", x.many(9), 24 * 13);
        due.is("many(25)", x.many(25), 24 * 31);
        due.is("many(994009), 997 times 997", x.many(994009), 24L * (1 + 997 + 994009));
        due.is("many(999983), a prime number", x.many(999983), 24L * 999984);
    }

    // ---- promise 24

    static void promise24_toNumbers(Due due) {
        Bench.outside(due, "list(%d, 1, 0)", (x, to) -> x.list(to, 1, 0), Bench.BAD, -1, 20, MIN, MAX);
        Bench.of(due, "list(0, 1, 0)", x -> x.list(0, 1, 0)).four(0, 4, -2, 0, 0, 0).refuses(4);
        Bench.of(due, "list(19, 1, 0)", x -> x.list(19, 1, 0)).four(19, 4, -2, 0, 0, 0).refuses(4);
    }

    static void promise24_leastNorm(Due due) {
        Bench.of(due, "list(9, 1, 23)", x -> x.list(9, 1, 23)).four(9, 4, 2, 0, 0, 0).refuses(4);
        Bench.outside(due, "list(9, %d, 0)", (x, n) -> x.list(9, n, 0), Bench.BAD, 0, -1, MIN);
    }

    static void promise24_greatestNorm(Due due) {
        Bench.of(due, "list(9, 150, 2975)", x -> x.list(9, 150, 2975)).four(9, 2, 24, 4, 2, 2).refuses(2);
        Bench.of(due, "list(9, 150, 0)", x -> x.list(9, 150, 0)).four(9, 2, -24, -4, -2, -2).refuses(2);
        Bench.outside(due, "list(9, %d, 0)", (x, n) -> x.list(9, n, 0), Bench.BAD, 151, 152, MAX);
    }

    static void promise24_belowTheFirst(Due due) {
        Bench.outside(due, "list(9, 1, %d)", (x, i) -> x.list(9, 1, i), NONE, -1, -2, MIN);
        Bench.outside(due, "list(0, 150, %d)", (x, i) -> x.list(0, 150, i), NONE, -1, MIN);
    }

    static void promise24_behindTheLast(Due due) {
        Bench.outside(due, "list(9, 1, %d)", (x, i) -> x.list(9, 1, i), NONE, 24, 25, MAX);
        Bench.outside(due, "list(0, 150, %d)", (x, i) -> x.list(0, 150, i), NONE, 2976, 2977, MAX);
    }

    static void promise24_behindTheLastOfEachNorm(Due due) {
        for (int n = 1; n <= 150; n++) {
            WholeTurns x = new WholeTurns();
            int count = x.many(n);
            due.holds("list(0, " + n + ", " + (count - 1) + ") is a KIND", x.list(0, n, count - 1) >= 0);
            due.is("norm(0)", x.norm(0), n);
            due.is("list(1, " + n + ", " + count + ")", x.list(1, n, count), Due.NONE);
            due.is("kind(1)", x.kind(1), Due.NULL);
        }
    }

    static void promise24_badAheadOfNone(Due due) {
        Bench.outside(due, "list(%d, 1, 24)", (x, to) -> x.list(to, 1, 24), Bench.BAD, -1, 20);
        Bench.outside(due, "list(%d, 1, -1)", (x, to) -> x.list(to, 1, -1), Bench.BAD, -1, 20);
        Bench.outside(due, "list(0, %d, -1)", (x, n) -> x.list(0, n, -1), Bench.BAD, 0, 151);
        Bench.outside(due, "list(0, %d, 3000)", (x, n) -> x.list(0, n, 3000), Bench.BAD, 0, 151);
    }

    private static final long[][] UNITS = {
        {-2, 0, 0, 0}, {-1, -1, -1, -1}, {-1, -1, -1, 1}, {-1, -1, 1, -1}, {-1, -1, 1, 1}, {-1, 1, -1, -1}, {-1, 1, -1, 1}, {-1, 1, 1, -1},
        {-1, 1, 1, 1}, {0, -2, 0, 0}, {0, 0, -2, 0}, {0, 0, 0, -2}, {0, 0, 0, 2}, {0, 0, 2, 0}, {0, 2, 0, 0}, {1, -1, -1, -1},
        {1, -1, -1, 1}, {1, -1, 1, -1}, {1, -1, 1, 1}, {1, 1, -1, -1}, {1, 1, -1, 1}, {1, 1, 1, -1}, {1, 1, 1, 1}, {2, 0, 0, 0}};

    /** Alike in W, then in X, then in Y: the next number tells which is LESS. */
    static void promise24_lessByEachNumberInTurn(Due due) {
        WholeTurns x = new WholeTurns();
        for (int i = 0; i < 24; i++) {
            due.is("list(0, 1, " + i + ")", x.list(0, 1, i), 4);
            due.numbers(x, 0, UNITS[i][0], UNITS[i][1], UNITS[i][2], UNITS[i][3]);
        }
    }

    static void promise24_itsKinds(Due due) {
        WholeTurns x = new WholeTurns();
        due.is("list(0, 2, 0)", x.list(0, 2, 0), 3);
        due.is("list(0, 4, 0)", x.list(0, 4, 0), 0);
        due.is("list(0, 9, 53)", x.list(0, 9, 53), 1);
        due.numbers(x, 0, -3, -3, -3, -3);
        due.is("list(0, 6, 0)", x.list(0, 6, 0), 2);
    }

    static void promise24_statusOfNone(Due due) {
        WholeTurns x = new WholeTurns();
        x.norm(0);
        x.list(0, 1, 24);
        due.is("status() behind NONE", x.status(), 1);
        x.list(0, 1, 0);
        due.is("status() behind a KIND", x.status(), 1);
    }

    // ---- promise 25

    static void promise25_nought(Due due) {
        tells(due, "squares(%d)", (x, n) -> x.squares(n), 0, 1);
        Bench.outside(due, "squares(%d)", (x, n) -> x.squares(n), Bench.BAD, -1, -2, MIN);
    }

    static void promise25_greatest(Due due) {
        tells(due, "squares(%d)", (x, n) -> x.squares(n), 1000000, 24 * 19531);
        Bench.outside(due, "squares(%d)", (x, n) -> x.squares(n), Bench.BAD, 1000001, 1000002, MAX);
    }

    static void promise25_one(Due due) {
        tells(due, "squares(%d)", (x, n) -> x.squares(n), 1, 8);
    }

    static void promise25_foursCountOnce(Due due) {
        WholeTurns x = new WholeTurns();
        due.is("squares(2)", x.squares(2), 24);
        due.is("squares(4)", x.squares(4), 24);
        due.is("squares(8)", x.squares(8), 24);
        due.is("squares(12)", x.squares(12), 96);
        due.is("squares(16)", x.squares(16), 24);
        due.is("squares(9)", x.squares(9), 104);
        due.is("squares(524288)", x.squares(524288), 24);
        due.is("squares(786432)", x.squares(786432), 96);
    }

    // ---- promise 26

    static void promise26_nought(Due due) {
        tells(due, "three(%d)", (x, n) -> x.three(n), 0, 1);
        Bench.outside(due, "three(%d)", (x, n) -> x.three(n), Bench.BAD, -1, -7, MIN);
    }

    static void promise26_greatest(Due due) {
        tells(due, "three(%d)", (x, n) -> x.three(n), 1000000, 1);
        tells(due, "three(%d)", (x, n) -> x.three(n), 999999, 0);
        Bench.outside(due, "three(%d)", (x, n) -> x.three(n), Bench.BAD, 1000001, 1000007, MAX);
    }

    static void promise26_sevens(Due due) {
        WholeTurns x = new WholeTurns();
        for (int n : new int[] {7, 15, 23, 28, 60, 92, 112, 240, 448, 114688, 458752, 983040}) due.is("three(" + n + ")", x.three(n), 0);
    }

    static void promise26_besideSevens(Due due) {
        WholeTurns x = new WholeTurns();
        for (int n : new int[] {1, 2, 3, 4, 5, 6, 8, 14, 16, 24, 27, 29, 56, 59, 61, 113, 224, 229376, 458753, 917504}) {
            due.is("three(" + n + ")", x.three(n), 1);
        }
    }
}
