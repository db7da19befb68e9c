/** The boundary cases of promises 15 to 17, 20 and 21, a test for each: FOURS joined, mirrored, and made plain. */
final class JoinedEdges {
    private static final int MIN = Integer.MIN_VALUE, MAX = Integer.MAX_VALUE;

    private JoinedEdges() {
    }

    // ---- promise 15

    static void promise15_toNumbers(Due due) {
        Bench.span(due, "times(%d, 0, 19)", (x, to) -> x.times(to, 0, 19), Bench.BAD, 0, 0, 19, 0);
    }

    static void promise15_firstNumbers(Due due) {
        Bench.span(due, "times(9, %d, 3)", (x, p) -> x.times(9, p, 3), Bench.BAD, 0, 0, 19, 2);
    }

    static void promise15_secondNumbers(Due due) {
        Bench.span(due, "times(9, 3, %d)", (x, q) -> x.times(9, 3, q), Bench.BAD, 0, 2, 19, 2);
    }

    static void promise15_toAMissingSlot(Due due) {
        Bench.of(due, "times(9, 0, 19)", x -> x.times(9, 0, 19)).four(9, 0, -30, 20, 10, 20).answers(0);
        Bench.of(due, "times(18, 19, 0)", x -> x.times(18, 19, 0)).four(18, 0, -30, 0, 18, 24).answers(0);
    }

    static void promise15_toTheFirst(Due due) {
        Bench.of(due, "times(0, 0, 19)", x -> x.times(0, 0, 19)).four(0, 0, -30, 20, 10, 20).answers(0);
    }

    static void promise15_toTheSecond(Due due) {
        Bench.of(due, "times(19, 0, 19)", x -> x.times(19, 0, 19)).four(19, 0, -30, 20, 10, 20).answers(0);
    }

    /** "all three: KIND" is read as what the three calls answer: with all three SLOTS the same one, too. */
    static void promise15_allThreeTheSame(Due due) {
        Bench.of(due, "times(19, 19, 19)", x -> x.times(19, 19, 19)).four(19, 2, -14, 8, 8, 24).answers(2);
        Bench.of(due, "times(2, 2, 2)", x -> x.times(2, 2, 2)).four(2, 4, -1, 1, 1, 1).answers(4);
    }

    static void promise15_byNought(Due due) {
        Bench.of(due, "times(9, 0, 4)", x -> x.times(9, 0, 4)).four(9, 0, 0, 0, 0, 0).answers(0);
        Bench.of(due, "times(9, 4, 7)", x -> x.times(9, 4, 7)).four(9, 0, 0, 0, 0, 0).answers(0);
    }

    static void promise15_missing(Due due) {
        Bench.of(due, "times(0, 9, 19)", x -> x.times(0, 9, 19)).finds(Due.NULL);
        Bench.of(due, "times(0, 19, 9)", x -> x.times(0, 19, 9)).finds(Due.NULL);
        Bench.of(due, "times(0, 9, 18)", x -> x.times(0, 9, 18)).finds(Due.NULL);
    }

    static void promise15_badAheadOfNull(Due due) {
        Bench.outside(due, "times(%d, 9, 9)", (x, to) -> x.times(to, 9, 9), Bench.BAD, -1, 20);
        Bench.outside(due, "times(0, %d, 9)", (x, p) -> x.times(0, p, 9), Bench.BAD, -1, 20);
        Bench.outside(due, "times(0, 9, %d)", (x, q) -> x.times(0, 9, q), Bench.BAD, -1, 20);
    }

    static void promise15_badAheadOfFull(Due due) {
        Bench.outside(due, "times(%d, 7, 7)", (x, to) -> x.times(to, 7, 7), Bench.BAD, -1, 20);
    }

    static void promise15_full(Due due) {
        Bench.of(due, "times(0, 7, 7)", x -> x.times(0, 7, 7)).refuses(Due.FULL);
        Bench.of(due, "times(9, 8, 3)", x -> x.times(9, 8, 3)).refuses(Due.FULL);
        Bench.of(due, "times(7, 7, 7)", x -> x.times(7, 7, 7)).refuses(Due.FULL);
    }

    /** The NORM of what is made: 999999999 is 3 times 333333333. */
    static void promise15_normJustBelowTheGreatest(Due due) {
        WholeTurns x = Due.with(3, 1, 1, 1);
        Due.put(x, 1, 36514, 0, 40, 244);
        due.is("times(2, 0, 1)", x.times(2, 0, 1), 2);
        due.is("norm(2)", x.norm(2), 999999999);
    }

    static void promise15_normAtTheGreatest(Due due) {
        Bench.of(due, "times(9, 7, 1)", x -> x.times(9, 7, 1)).four(9, 0, 0, 60000, 20000, 0).answers(0);
        Bench.of(due, "times(9, 2, 7)", x -> x.times(9, 2, 7)).four(9, 0, -40000, 20000, 40000, -20000).answers(0);
        WholeTurns x = Due.with(200, 0, 0, 0);
        Due.put(x, 1, 0, 600, 200, 0);
        due.is("times(2, 0, 1) of NORMS 10000 and 100000", x.times(2, 0, 1), 0);
        due.numbers(x, 2, 0, 60000, 20000, 0);
    }

    /** 1000000001 is 7 times 142857143. */
    static void promise15_normJustAboveTheGreatest(Due due) {
        WholeTurns x = Due.with(5, 1, 1, 1);
        Due.put(x, 1, 23903, 3, 25, 273);
        due.is("norm(1)", x.norm(1), 142857143);
        x.norm(9);
        due.is("times(2, 0, 1)", x.times(2, 0, 1), Due.FULL);
        due.is("times(2, 1, 0)", x.times(2, 1, 0), Due.FULL);
        due.is("status()", x.status(), 1);
        due.is("kind(2)", x.kind(2), Due.NULL);
    }

    /** The square of the greatest NORM has 19 digits. */
    static void promise15_greatestTimesGreatest(Due due) {
        long[][] great = {{0, 60000, 20000, 0}, {63245, 1, 43, 261}, {31622, 31622, 31622, 31622}, {-63244, 0, 0, 0}, {31621, -31621, 31621, -31621}};
        for (long[] p : great) {
            for (long[] q : great) {
                WholeTurns x = Due.with(p[0], p[1], p[2], p[3]);
                Due.put(x, 1, q[0], q[1], q[2], q[3]);
                due.is("times(2, 0, 1) of great ones", x.times(2, 0, 1), Due.FULL);
            }
        }
    }

    /** Each row is a, b, and what the a-th of i, j, k times the b-th is, below 0 with a sign; 4 is 1. */
    static void promise15_productsOfUnits(Due due) {
        int[][] rows = {{1, 1, -4}, {2, 2, -4}, {3, 3, -4}, {1, 2, 3}, {2, 3, 1}, {3, 1, 2}, {2, 1, -3}, {3, 2, -1}, {1, 3, -2}};
        for (int[] row : rows) {
            WholeTurns x = new WholeTurns();
            for (int a = 1; a < 4; a++) Due.put(x, a, 0, a == 1 ? 2 : 0, a == 2 ? 2 : 0, a == 3 ? 2 : 0);
            due.is("times(5, " + row[0] + ", " + row[1] + ")", x.times(5, row[0], row[1]), 4);
            long[] want = new long[4];
            want[Math.abs(row[2]) % 4] = row[2] < 0 ? -2 : 2;
            due.numbers(x, 5, want[0], want[1], want[2], want[3]);
        }
    }

    // ---- promise 16

    static void promise16_toNumbers(Due due) {
        Bench.span(due, "sum(%d, 0, 19)", (x, to) -> x.sum(to, 0, 19), Bench.BAD, 0, 3, 19, 3);
    }

    static void promise16_firstNumbers(Due due) {
        Bench.span(due, "sum(9, %d, 3)", (x, p) -> x.sum(9, p, 3), Bench.BAD, 0, 2, 19, 3);
    }

    static void promise16_secondNumbers(Due due) {
        Bench.span(due, "sum(9, 3, %d)", (x, q) -> x.sum(9, 3, q), Bench.BAD, 0, 2, 19, 3);
    }

    static void promise16_toTheFirstOrTheSecond(Due due) {
        Bench.of(due, "sum(0, 0, 19)", x -> x.sum(0, 0, 19)).four(0, 3, 6, 6, 8, 14).answers(3);
        Bench.of(due, "sum(19, 0, 19)", x -> x.sum(19, 0, 19)).four(19, 3, 6, 6, 8, 14).answers(3);
    }

    static void promise16_allThreeTheSame(Due due) {
        Bench.of(due, "sum(19, 19, 19)", x -> x.sum(19, 19, 19)).four(19, 0, 8, 4, 4, 12).answers(0);
    }

    static void promise16_evenAndOdd(Due due) {
        Bench.of(due, "sum(9, 0, 3)", x -> x.sum(9, 0, 3)).four(9, 2, 5, 5, 7, 9).answers(2);
        Bench.of(due, "sum(9, 5, 0)", x -> x.sum(9, 5, 0)).four(9, 2, 5, 7, 9, 11).answers(2);
    }

    static void promise16_oddAndOddAreEven(Due due) {
        Bench.of(due, "sum(9, 3, 5)", x -> x.sum(9, 3, 5)).four(9, 2, 6, 4, 4, 4).answers(2);
        Bench.of(due, "sum(9, 2, 2)", x -> x.sum(9, 2, 2)).four(9, 0, 2, 2, 2, 2).answers(0);
    }

    static void promise16_neverOddAndEven(Due due) {
        int[] held = {0, 1, 2, 3, 4, 5, 6, 7, 8, 19};
        for (int p : held) {
            for (int q : held) {
                WholeTurns x = Bench.full(0);
                long answer = x.sum(9, p, q);
                due.holds("sum(9, " + p + ", " + q + ") is a KIND or FULL, not " + answer, answer >= 0 || answer == Due.FULL);
            }
        }
    }

    static void promise16_withNought(Due due) {
        Bench.of(due, "sum(9, 4, 0)", x -> x.sum(9, 4, 0)).four(9, 2, 2, 4, 6, 8).answers(2);
        Bench.of(due, "sum(9, 4, 4)", x -> x.sum(9, 4, 4)).four(9, 0, 0, 0, 0, 0).answers(0);
    }

    static void promise16_toNought(Due due) {
        WholeTurns x = Due.with(63245, 1, 43, 261);
        Due.put(x, 1, -63245, -1, -43, -261);
        due.is("sum(2, 0, 1)", x.sum(2, 0, 1), 0);
        due.numbers(x, 2, 0, 0, 0, 0);
    }

    static void promise16_missing(Due due) {
        Bench.of(due, "sum(0, 9, 19)", x -> x.sum(0, 9, 19)).finds(Due.NULL);
        Bench.of(due, "sum(0, 19, 9)", x -> x.sum(0, 19, 9)).finds(Due.NULL);
        Bench.of(due, "sum(0, 9, 9)", x -> x.sum(0, 9, 9)).finds(Due.NULL);
    }

    static void promise16_badAheadOfNull(Due due) {
        Bench.outside(due, "sum(%d, 9, 9)", (x, to) -> x.sum(to, 9, 9), Bench.BAD, -1, 20);
        Bench.outside(due, "sum(0, %d, 9)", (x, p) -> x.sum(0, p, 9), Bench.BAD, -1, 20);
        Bench.outside(due, "sum(0, 9, %d)", (x, q) -> x.sum(0, 9, q), Bench.BAD, -1, 20);
    }

    static void promise16_badAheadOfFull(Due due) {
        Bench.outside(due, "sum(%d, 7, 7)", (x, to) -> x.sum(to, 7, 7), Bench.BAD, -1, 20);
    }

    static void promise16_full(Due due) {
        Bench.of(due, "sum(0, 7, 7)", x -> x.sum(0, 7, 7)).refuses(Due.FULL);
        Bench.of(due, "sum(9, 8, 7)", x -> x.sum(9, 8, 7)).refuses(Due.FULL);
        Bench.of(due, "sum(8, 8, 8)", x -> x.sum(8, 8, 8)).refuses(Due.FULL);
    }

    static void promise16_greatestNormOfWholeNumbers(Due due) {
        Bench.of(due, "sum(9, 7, 4)", x -> x.sum(9, 7, 4)).four(9, 0, 0, 60000, 20000, 0).answers(0);
        Bench.of(due, "sum(9, 7, 1) of NORM 1000000001", x -> x.sum(9, 7, 1)).refuses(Due.FULL);
        Bench.of(due, "sum(9, 1, 7) of NORM 1000000001", x -> x.sum(9, 1, 7)).refuses(Due.FULL);
    }

    static void promise16_greatestNormOfHalves(Due due) {
        WholeTurns x = Due.with(63245, -1, 43, 261);
        Due.put(x, 1, 0, 2, 0, 0);
        due.is("sum(2, 0, 1) of NORM 999999999", x.sum(2, 0, 1), 2);
        due.numbers(x, 2, 63245, 1, 43, 261);
        due.is("sum(3, 2, 1) of NORM 1000000001", x.sum(3, 2, 1), Due.FULL);
        due.is("kind(3)", x.kind(3), Due.NULL);
    }

    // ---- promise 17

    static void promise17_toNumbers(Due due) {
        Bench.span(due, "back(%d, 3)", (x, to) -> x.back(to, 3), Bench.BAD, 0, 3, 19, 3);
    }

    static void promise17_ofNumbers(Due due) {
        Bench.span(due, "back(9, %d)", (x, p) -> x.back(9, p), Bench.BAD, 0, 2, 19, 2);
    }

    static void promise17_toAnother(Due due) {
        Bench.of(due, "back(9, 0)", x -> x.back(9, 0)).four(9, 2, 2, -4, -6, -8).answers(2);
    }

    static void promise17_toItself(Due due) {
        Bench.of(due, "back(19, 19)", x -> x.back(19, 19)).four(19, 2, 4, -2, -2, -6).answers(2);
    }

    static void promise17_ofNought(Due due) {
        Bench.of(due, "back(9, 4)", x -> x.back(9, 4)).four(9, 0, 0, 0, 0, 0).answers(0);
    }

    static void promise17_ofTheGreatest(Due due) {
        Bench.of(due, "back(9, 7)", x -> x.back(9, 7)).four(9, 0, 0, -60000, -20000, 0).answers(0);
    }

    static void promise17_missing(Due due) {
        Bench.of(due, "back(0, 9)", x -> x.back(0, 9)).finds(Due.NULL);
        Bench.of(due, "back(18, 18)", x -> x.back(18, 18)).finds(Due.NULL);
    }

    static void promise17_badAheadOfNull(Due due) {
        Bench.outside(due, "back(%d, 9)", (x, to) -> x.back(to, 9), Bench.BAD, -1, 20, MIN, MAX);
    }

    // ---- promise 20

    static void promise20_toNumbers(Due due) {
        Bench.span(due, "associate(%d, 3, 0)", (x, to) -> x.associate(to, 3, 0), Bench.BAD, 0, 3, 19, 3);
    }

    static void promise20_ofNumbers(Due due) {
        Bench.span(due, "associate(9, %d, 0)", (x, p) -> x.associate(9, p, 0), Bench.BAD, 0, 2, 19, 2);
    }

    static void promise20_sideNumbers(Due due) {
        Bench.span(due, "associate(9, 0, %d)", (x, side) -> x.associate(9, 0, side), Bench.BAD, 0, 2, 1, 2);
    }

    static void promise20_unitLeftIsSideNought(Due due) {
        Bench.of(due, "associate(9, 0, 0)", x -> x.associate(9, 0, 0)).four(9, 2, 10, 0, 4, 2).answers(2);
        Bench.of(due, "associate(9, 19, 0)", x -> x.associate(9, 19, 0)).four(9, 2, 7, -3, 1, 1).answers(2);
    }

    static void promise20_unitRightIsSideOne(Due due) {
        Bench.of(due, "associate(9, 0, 1)", x -> x.associate(9, 0, 1)).four(9, 2, 10, 2, 0, 4).answers(2);
        Bench.of(due, "associate(9, 19, 1)", x -> x.associate(9, 19, 1)).four(9, 2, 7, 1, -3, 1).answers(2);
    }

    static void promise20_toItself(Due due) {
        Bench.of(due, "associate(0, 0, 1)", x -> x.associate(0, 0, 1)).four(0, 2, 10, 2, 0, 4).answers(2);
    }

    static void promise20_thatIsTheGreatestAlready(Due due) {
        for (int side = 0; side < 2; side++) {
            int at = side;
            Bench.of(due, "associate(9, 3, " + side + ")", x -> x.associate(9, 3, at)).four(9, 3, 3, 1, 1, 1).answers(3);
            Bench.of(due, "associate(9, 8, " + side + ")", x -> x.associate(9, 8, at)).four(9, 2, 62001, 3, 5, 7).answers(2);
            Bench.of(due, "associate(1, 1, " + side + ")", x -> x.associate(1, 1, at)).answers(4);
        }
    }

    static void promise20_ofNought(Due due) {
        Bench.of(due, "associate(9, 4, 0)", x -> x.associate(9, 4, 0)).four(9, 0, 0, 0, 0, 0).answers(0);
        Bench.of(due, "associate(9, 4, 1)", x -> x.associate(9, 4, 1)).four(9, 0, 0, 0, 0, 0).answers(0);
    }

    static void promise20_ofAUnit(Due due) {
        Bench.of(due, "associate(9, 2, 0)", x -> x.associate(9, 2, 0)).four(9, 4, 2, 0, 0, 0).answers(4);
        Bench.of(due, "associate(9, 2, 1)", x -> x.associate(9, 2, 1)).four(9, 4, 2, 0, 0, 0).answers(4);
    }

    /** Each of the 24 UNITS is the one that makes 1 of some UNIT. */
    static void promise20_eachUnitIsTried(Due due) {
        for (int i = 0; i < 24; i++) {
            for (int side = 0; side < 2; side++) {
                WholeTurns x = new WholeTurns();
                x.list(0, 1, i);
                due.is("associate(1, 0, " + side + ") of list(0, 1, " + i + ")", x.associate(1, 0, side), 4);
                due.numbers(x, 1, 2, 0, 0, 0);
            }
        }
    }

    static void promise20_ofAHalfThatComesToAFour(Due due) {
        Bench.of(due, "associate(9, 5, 0)", x -> x.associate(9, 5, 0)).four(9, 0, 6, 0, 0, 0).answers(0);
    }

    static void promise20_ofTheGreatest(Due due) {
        Bench.of(due, "associate(9, 7, 0)", x -> x.associate(9, 7, 0)).four(9, 0, 60000, 0, 0, -20000).answers(0);
        Bench.of(due, "associate(9, 7, 1)", x -> x.associate(9, 7, 1)).four(9, 0, 60000, 0, 0, 20000).answers(0);
    }

    static void promise20_missing(Due due) {
        Bench.of(due, "associate(0, 9, 0)", x -> x.associate(0, 9, 0)).finds(Due.NULL);
        Bench.of(due, "associate(0, 18, 1)", x -> x.associate(0, 18, 1)).finds(Due.NULL);
    }

    static void promise20_badAheadOfNull(Due due) {
        Bench.outside(due, "associate(%d, 9, 0)", (x, to) -> x.associate(to, 9, 0), Bench.BAD, -1, 20);
        Bench.outside(due, "associate(0, 9, %d)", (x, side) -> x.associate(0, 9, side), Bench.BAD, -1, 2, MIN, MAX);
    }

    // ---- promise 21

    static void promise21_toNumbers(Due due) {
        Bench.span(due, "plain(%d, 7)", (x, to) -> x.plain(to, 7), Bench.BAD, 0, 10000, 19, 10000);
    }

    static void promise21_ofNumbers(Due due) {
        Bench.span(due, "plain(9, %d)", (x, p) -> x.plain(9, p), Bench.BAD, 0, 1, 19, 1);
    }

    static void promise21_byOne(Due due) {
        Bench.of(due, "plain(9, 0)", x -> x.plain(9, 0)).four(9, 2, 2, 4, 6, 8).answers(1);
        Bench.of(due, "plain(9, 2)", x -> x.plain(9, 2)).four(9, 4, 1, 1, 1, 1).answers(1);
        Bench.of(due, "plain(9, 8)", x -> x.plain(9, 8)).four(9, 2, 62001, 3, 5, 7).answers(1);
    }

    static void promise21_ofAHalf(Due due) {
        Bench.of(due, "plain(5, 5)", x -> x.plain(5, 5)).four(5, 4, 1, 1, 1, 1).answers(3);
    }

    static void promise21_ofAWholeNumber(Due due) {
        Bench.of(due, "plain(9, 6)", x -> x.plain(9, 6)).four(9, 4, 2, 0, 0, 0).answers(2);
    }

    static void promise21_toItself(Due due) {
        Bench.of(due, "plain(7, 7)", x -> x.plain(7, 7)).four(7, 2, 0, 6, 2, 0).answers(10000);
    }

    /** Even numbers whose halves are odd: 2 divides them into halves, not only the greatest common divisor's half. */
    static void promise21_intoHalves(Due due) {
        plainOf(due, 2, 2, 2, 2, 2, 4);
        plainOf(due, 2, 6, 2, -2, 2, 3);
        plainOf(due, 6, 18, 6, -6, 6, 3);
        plainOf(due, 4, 4, 4, 4, -4, 4);
        plainOf(due, 2, -2, 2, 6, 10, 2);
    }

    /** Of what the common divisor leaves some is even. */
    static void promise21_notIntoHalves(Due due) {
        plainOf(due, 1, 2, 2, 2, 0, 3);
        plainOf(due, 2, 4, 4, 4, 0, 3);
        plainOf(due, 1, 2, 4, 2, 2, 3);
        plainOf(due, 3, 6, 6, 6, 12, 3);
    }

    private static void plainOf(Due due, long divisor, long w, long i, long j, long k, long kind) {
        WholeTurns x = Due.with(w, i, j, k);
        due.is("plain(1, 0) of " + w + " " + i + " " + j + " " + k, x.plain(1, 0), divisor);
        due.numbers(x, 1, w / divisor, i / divisor, j / divisor, k / divisor);
        due.is("kind(1)", x.kind(1), kind);
    }

    static void promise21_greatestDivisors(Due due) {
        plainOf(due, 31622, 0, 0, 0, -63244, 4);
        plainOf(due, 31622, 31622, 31622, 31622, 31622, 4);
        plainOf(due, 31621, 31621, -31621, 31621, 31621, 4);
        plainOf(due, 31607, 31607, 31607, 31607, -31607, 4);
    }

    static void promise21_ofNought(Due due) {
        Bench.of(due, "plain(0, 4)", x -> x.plain(0, 4)).refuses(Due.STATE);
        Bench.of(due, "plain(9, 4)", x -> x.plain(9, 4)).refuses(Due.STATE);
        Bench.of(due, "plain(4, 4)", x -> x.plain(4, 4)).refuses(Due.STATE);
    }

    static void promise21_missing(Due due) {
        Bench.of(due, "plain(0, 9)", x -> x.plain(0, 9)).finds(Due.NULL);
        Bench.of(due, "plain(9, 18)", x -> x.plain(9, 18)).finds(Due.NULL);
    }

    static void promise21_badAheadOfNull(Due due) {
        Bench.outside(due, "plain(%d, 9)", (x, to) -> x.plain(to, 9), Bench.BAD, -1, 20, MIN, MAX);
    }

    static void promise21_badAheadOfState(Due due) {
        Bench.outside(due, "plain(%d, 4)", (x, to) -> x.plain(to, 4), Bench.BAD, -1, 20, MIN, MAX);
    }
}
