/** The boundary cases of promises 27 to 33, a test for each: turns, their tables, orders, axes and cells. */
final class TurnEdges {
    private static final int MIN = Integer.MIN_VALUE, MAX = Integer.MAX_VALUE;

    private TurnEdges() {
    }

    private static String told(long... four) {
        return four[0] + " " + four[1] + " " + four[2] + " " + four[3];
    }

    // ---- promise 27

    static void promise27_slotNumbers(Due due) {
        Bench.span(due, "table(%d, 0, 0, 1)", (x, p) -> x.table(p, 0, 0, 1), Bench.BAD, 0, 3, 19, 3);
    }

    static void promise27_rowNumbers(Due due) {
        Bench.span(due, "table(0, %d, 0, 0)", (x, row) -> x.table(0, row, 0, 0), Bench.BAD, 0, -2, 2, 1);
    }

    static void promise27_columnNumbers(Due due) {
        Bench.span(due, "table(0, 0, %d, 0)", (x, column) -> x.table(0, 0, column, 0), Bench.BAD, 0, -2, 2, 11);
    }

    static void promise27_upperAndLower(Due due) {
        Bench.span(due, "table(0, 0, 0, %d)", (x, what) -> x.table(0, 0, 0, what), Bench.BAD, 0, -2, 1, 3);
    }

    private static void table(Due due, WholeTurns x, long[] uppers, long[] lowers) {
        for (int row = 0; row < 3; row++) {
            for (int column = 0; column < 3; column++) {
                String at = row + ", " + column;
                due.is("table(0, " + at + ", 0)", x.table(0, row, column, 0), uppers[3 * row + column]);
                due.is("table(0, " + at + ", 1)", x.table(0, row, column, 1), lowers[3 * row + column]);
            }
        }
    }

    static void promise27_noughtHasLowerOne(Due due) {
        table(due, Due.with(2, 0, 0, 0), new long[] {1, 0, 0, 0, 1, 0, 0, 0, 1}, new long[] {1, 1, 1, 1, 1, 1, 1, 1, 1});
        table(due, Due.with(0, 0, -6, 0), new long[] {-1, 0, 0, 0, 1, 0, 0, 0, -1}, new long[] {1, 1, 1, 1, 1, 1, 1, 1, 1});
    }

    static void promise27_leastTerms(Due due) {
        table(due, Due.with(2, 4, 6, 8), new long[] {-2, 2, 11, 2, -1, 2, 1, 14, 2}, new long[] {3, 15, 15, 3, 3, 3, 3, 15, 15});
        table(due, Due.with(6, 12, 18, 24), new long[] {-2, 2, 11, 2, -1, 2, 1, 14, 2}, new long[] {3, 15, 15, 3, 3, 3, 3, 15, 15});
        table(due, Due.with(0, 60000, 20000, 0), new long[] {4, 3, 0, 3, -4, 0, 0, 0, -1}, new long[] {5, 5, 1, 5, 5, 1, 1, 1, 1});
    }

    static void promise27_greatFractions(Due due) {
        long lower = 961031021;
        table(due, Due.with(62001, 3, 5, 7),
            new long[] {961030984, -216996, 155013, 217011, 961030992, -92984, -154992, 93019, 961031004},
            new long[] {lower, lower, lower, lower, lower, lower, lower, lower, lower});
    }

    static void promise27_changesNothing(Due due) {
        Bench.of(due, "table(0, 2, 1, 0)", x -> x.table(0, 2, 1, 0)).answers(14);
        Bench.of(due, "table(7, 0, 1, 1)", x -> x.table(7, 0, 1, 1)).answers(5);
    }

    static void promise27_missing(Due due) {
        Bench.of(due, "table(9, 0, 0, 0)", x -> x.table(9, 0, 0, 0)).finds(Due.NULL);
    }

    static void promise27_ofNought(Due due) {
        Bench.of(due, "table(4, 0, 0, 0)", x -> x.table(4, 0, 0, 0)).refuses(Due.STATE);
        Bench.of(due, "table(4, 2, 2, 1)", x -> x.table(4, 2, 2, 1)).refuses(Due.STATE);
    }

    static void promise27_badAheadOfNull(Due due) {
        Bench.outside(due, "table(9, %d, 0, 0)", (x, row) -> x.table(9, row, 0, 0), Bench.BAD, -1, 3, MIN, MAX);
        Bench.outside(due, "table(9, 0, %d, 0)", (x, column) -> x.table(9, 0, column, 0), Bench.BAD, -1, 3, MIN, MAX);
        Bench.outside(due, "table(9, 0, 0, %d)", (x, what) -> x.table(9, 0, 0, what), Bench.BAD, -1, 2, MIN, MAX);
    }

    static void promise27_badAheadOfState(Due due) {
        Bench.outside(due, "table(4, %d, 0, 0)", (x, row) -> x.table(4, row, 0, 0), Bench.BAD, -1, 3);
        Bench.outside(due, "table(4, 0, %d, 0)", (x, column) -> x.table(4, 0, column, 0), Bench.BAD, -1, 3);
        Bench.outside(due, "table(4, 0, 0, %d)", (x, what) -> x.table(4, 0, 0, what), Bench.BAD, -1, 2);
    }

    // ---- promise 28

    static void promise28_slotNumbers(Due due) {
        Bench.span(due, "turn(%d, 1, 0, 0, 0, 1)", (x, p) -> x.turn(p, 1, 0, 0, 0, 1), Bench.BAD, 0, 3, 19, 3);
    }

    static void promise28_farthestX(Due due) {
        Bench.span(due, "turn(0, %d, 0, 0, 1, 0)", (x, at) -> x.turn(0, at, 0, 0, 1, 0), Bench.BAD, -1000, -2000, 1000, 2000);
    }

    static void promise28_farthestY(Due due) {
        Bench.span(due, "turn(0, 0, %d, 0, 1, 0)", (x, at) -> x.turn(0, 0, at, 0, 1, 0), Bench.BAD, -1000, 1000, 1000, -1000);
    }

    static void promise28_farthestZ(Due due) {
        Bench.span(due, "turn(0, 0, 0, %d, 1, 0)", (x, at) -> x.turn(0, 0, 0, at, 1, 0), Bench.BAD, -1000, -2000, 1000, 2000);
    }

    static void promise28_placeNumbers(Due due) {
        Bench.span(due, "turn(0, 1, 2, 3, %d, 0)", (x, k) -> x.turn(0, 1, 2, 3, k, 0), Bench.BAD, 0, 9, 2, 13);
    }

    static void promise28_upperAndLower(Due due) {
        Bench.span(due, "turn(0, 1, 2, 3, 0, %d)", (x, what) -> x.turn(0, 1, 2, 3, 0, what), Bench.BAD, 0, 9, 1, 5);
    }

    static void promise28_noughtStays(Due due) {
        for (int k = 0; k < 3; k++) {
            int at = k;
            Bench.of(due, "turn(0, 0, 0, 0, " + k + ", 0)", x -> x.turn(0, 0, 0, 0, at, 0)).answers(0);
            Bench.of(due, "turn(0, 0, 0, 0, " + k + ", 1)", x -> x.turn(0, 0, 0, 0, at, 1)).answers(1);
        }
    }

    static void promise28_wholeOnesHaveLowerOne(Due due) {
        Bench.of(due, "turn(3, 1, 1, 1, 0, 0)", x -> x.turn(3, 1, 1, 1, 0, 0)).answers(1);
        Bench.of(due, "turn(3, 1, 1, 1, 0, 1)", x -> x.turn(3, 1, 1, 1, 0, 1)).answers(1);
        Bench.of(due, "turn(0, 15, 0, 0, 2, 1)", x -> x.turn(0, 15, 0, 0, 2, 1)).answers(1);
        Bench.of(due, "turn(0, -15, 0, 0, 2, 0)", x -> x.turn(0, -15, 0, 0, 2, 0)).answers(-5);
    }

    static void promise28_farthestOfTheGreatest(Due due) {
        WholeTurns x = Due.with(62001, 3, 5, 7);
        due.is("turn(0, 1000, 1000, 1000, 0, 0)", x.turn(0, 1000, 1000, 1000, 0, 0), 1000L * (961030984 - 216996 + 155013));
        due.is("turn(0, 1000, 1000, 1000, 0, 1)", x.turn(0, 1000, 1000, 1000, 0, 1), 961031021);
        due.is("turn(0, -1000, -1000, -1000, 2, 0)", x.turn(0, -1000, -1000, -1000, 2, 0), -1000L * (-154992 + 93019 + 961031004));
        Bench.of(due, "turn(7, 1000, 1000, 1000, 0, 0)", y -> y.turn(7, 1000, 1000, 1000, 0, 0)).answers(1400);
        Bench.of(due, "turn(7, 1000, 1000, 1000, 2, 0)", y -> y.turn(7, 1000, 1000, 1000, 2, 0)).answers(-1000);
    }

    static void promise28_missing(Due due) {
        Bench.of(due, "turn(9, 1, 2, 3, 0, 0)", x -> x.turn(9, 1, 2, 3, 0, 0)).finds(Due.NULL);
    }

    static void promise28_ofNought(Due due) {
        Bench.of(due, "turn(4, 1, 2, 3, 0, 0)", x -> x.turn(4, 1, 2, 3, 0, 0)).refuses(Due.STATE);
        Bench.of(due, "turn(4, 0, 0, 0, 2, 1)", x -> x.turn(4, 0, 0, 0, 2, 1)).refuses(Due.STATE);
    }

    static void promise28_badAheadOfNull(Due due) {
        Bench.outside(due, "turn(9, %d, 0, 0, 0, 0)", (x, at) -> x.turn(9, at, 0, 0, 0, 0), Bench.BAD, -1001, 1001);
        Bench.outside(due, "turn(9, 0, %d, 0, 0, 0)", (x, at) -> x.turn(9, 0, at, 0, 0, 0), Bench.BAD, -1001, 1001);
        Bench.outside(due, "turn(9, 0, 0, %d, 0, 0)", (x, at) -> x.turn(9, 0, 0, at, 0, 0), Bench.BAD, -1001, 1001);
        Bench.outside(due, "turn(9, 0, 0, 0, %d, 0)", (x, k) -> x.turn(9, 0, 0, 0, k, 0), Bench.BAD, -1, 3);
        Bench.outside(due, "turn(9, 0, 0, 0, 0, %d)", (x, what) -> x.turn(9, 0, 0, 0, 0, what), Bench.BAD, -1, 2);
    }

    static void promise28_badAheadOfState(Due due) {
        Bench.outside(due, "turn(4, %d, 0, 0, 0, 0)", (x, at) -> x.turn(4, at, 0, 0, 0, 0), Bench.BAD, -1001, 1001);
        Bench.outside(due, "turn(4, 0, %d, 0, 0, 0)", (x, at) -> x.turn(4, 0, at, 0, 0, 0), Bench.BAD, -1001, 1001);
        Bench.outside(due, "turn(4, 0, 0, %d, 0, 0)", (x, at) -> x.turn(4, 0, 0, at, 0, 0), Bench.BAD, -1001, 1001);
        Bench.outside(due, "turn(4, 0, 0, 0, %d, 0)", (x, k) -> x.turn(4, 0, 0, 0, k, 0), Bench.BAD, -1, 3);
        Bench.outside(due, "turn(4, 0, 0, 0, 0, %d)", (x, what) -> x.turn(4, 0, 0, 0, 0, what), Bench.BAD, -1, 2);
    }

    // ---- promise 29

    static void promise29_slotNumbers(Due due) {
        Bench.span(due, "order(%d)", (x, p) -> x.order(p), Bench.BAD, 0, Due.NONE, 19, Due.NONE);
    }

    private static void orders(Due due, long order, long[][] fours) {
        for (long[] four : fours) {
            WholeTurns x = Due.with(four[0], four[1], four[2], four[3]);
            due.is("order(0) of " + told(four), x.order(0), order);
            due.is("status()", x.status(), 0);
        }
    }

    static void promise29_one(Due due) {
        orders(due, 1, new long[][] {{2, 0, 0, 0}, {-2, 0, 0, 0}, {63244, 0, 0, 0}, {-6, 0, 0, 0}});
    }

    static void promise29_two(Due due) {
        orders(due, 2, new long[][] {{0, 2, 0, 0}, {0, 60000, 20000, 0}, {0, -2, 4, 6}, {0, 0, 0, -63244}});
    }

    static void promise29_three(Due due) {
        orders(due, 3, new long[][] {{1, 1, 1, 1}, {-1, 1, 1, 1}, {31621, -31621, 31621, 31621}, {2, 2, 2, -2}});
    }

    static void promise29_four(Due due) {
        orders(due, 4, new long[][] {{2, 2, 0, 0}, {-2, 0, 2, 0}, {6, 4, 4, 2}, {6, 0, 0, -6}});
    }

    static void promise29_six(Due due) {
        orders(due, 6, new long[][] {{3, 1, 1, 1}, {-3, 1, 1, -1}, {9, 3, -3, 3}, {6, 2, 2, 2}});
    }

    static void promise29_never(Due due) {
        orders(due, Due.NONE, new long[][] {{2, 4, 6, 8}, {4, 2, 0, 0}, {2, 4, 0, 0}, {62001, 3, 5, 7}, {63244, 0, 2, 0}, {1, 1, 1, 3}, {2, 2, 2, 0}});
    }

    static void promise29_noneIsNoFinding(Due due) {
        Bench.of(due, "order(0)", x -> x.order(0)).answers(Due.NONE);
        Bench.of(due, "order(3)", x -> x.order(3)).answers(6);
    }

    static void promise29_missing(Due due) {
        Bench.of(due, "order(9)", x -> x.order(9)).finds(Due.NULL);
    }

    static void promise29_ofNought(Due due) {
        Bench.of(due, "order(4)", x -> x.order(4)).refuses(Due.STATE);
    }

    // ---- promise 30

    static void promise30_slotNumbers(Due due) {
        Bench.span(due, "axis(%d, 2)", (x, p) -> x.axis(p, 2), Bench.BAD, 0, 4, 19, 3);
    }

    static void promise30_placeNumbers(Due due) {
        Bench.span(due, "axis(0, %d)", (x, k) -> x.axis(0, k), Bench.BAD, 0, 2, 2, 4);
    }

    private static void axis(Due due, long[] four, long i, long j, long k) {
        WholeTurns x = Due.with(four[0], four[1], four[2], four[3]);
        due.is("axis(0, 0) of " + told(four), x.axis(0, 0), i);
        due.is("axis(0, 1) of " + told(four), x.axis(0, 1), j);
        due.is("axis(0, 2) of " + told(four), x.axis(0, 2), k);
        due.is("status()", x.status(), 0);
    }

    static void promise30_firstNumberAboveNought(Due due) {
        axis(due, new long[] {2, -4, 6, 8}, 2, -3, -4);
        axis(due, new long[] {2, 4, -6, -8}, 2, -3, -4);
        axis(due, new long[] {-2, -2, 0, 2}, 1, 0, -1);
    }

    static void promise30_firstNumberNought(Due due) {
        axis(due, new long[] {2, 0, -4, 6}, 0, 2, -3);
        axis(due, new long[] {2, 0, 4, -6}, 0, 2, -3);
    }

    static void promise30_firstTwoNumbersNought(Due due) {
        axis(due, new long[] {2, 0, 0, -6}, 0, 0, 1);
        axis(due, new long[] {0, 0, 0, 2}, 0, 0, 1);
    }

    static void promise30_withoutCommonDivisor(Due due) {
        axis(due, new long[] {2, 12, 18, -24}, 2, 3, -4);
        axis(due, new long[] {3, 9, 15, 21}, 3, 5, 7);
        axis(due, new long[] {0, 60000, 20000, 0}, 3, 1, 0);
        axis(due, new long[] {1, 31621, -31621, 31621}, 1, -1, 1);
        axis(due, new long[] {0, 0, 63244, 0}, 0, 1, 0);
    }

    static void promise30_greatNumbersStay(Due due) {
        axis(due, new long[] {1, 263, 63245, 23}, 263, 63245, 23);
    }

    static void promise30_allPointsStay(Due due) {
        for (int k = 0; k < 3; k++) {
            int at = k;
            Bench.of(due, "axis(1, " + k + ")", x -> x.axis(1, at)).answers(Due.NONE);
            Bench.of(due, "axis(6, " + k + ")", x -> x.axis(6, at)).answers(Due.NONE);
        }
        due.is("axis(0, 0) of -1", Due.with(-2, 0, 0, 0).axis(0, 0), Due.NONE);
    }

    static void promise30_changesNothing(Due due) {
        Bench.of(due, "axis(19, 0)", x -> x.axis(19, 0)).answers(1);
    }

    static void promise30_missing(Due due) {
        Bench.of(due, "axis(9, 0)", x -> x.axis(9, 0)).finds(Due.NULL);
    }

    static void promise30_ofNought(Due due) {
        Bench.of(due, "axis(4, 0)", x -> x.axis(4, 0)).refuses(Due.STATE);
    }

    static void promise30_badAheadOfNull(Due due) {
        Bench.outside(due, "axis(9, %d)", (x, k) -> x.axis(9, k), Bench.BAD, -1, 3, MIN, MAX);
    }

    static void promise30_badAheadOfState(Due due) {
        Bench.outside(due, "axis(4, %d)", (x, k) -> x.axis(4, k), Bench.BAD, -1, 3, MIN, MAX);
    }

    // ---- promise 31

    static void promise31_firstNumbers(Due due) {
        Bench.span(due, "alike(%d, 0)", (x, p) -> x.alike(p, 0), Bench.BAD, 0, 1, 19, 0);
    }

    static void promise31_secondNumbers(Due due) {
        Bench.span(due, "alike(19, %d)", (x, q) -> x.alike(19, q), Bench.BAD, 0, 0, 19, 1);
    }

    private static void alike(Due due, long want, long[] p, long[] q) {
        WholeTurns x = Due.with(p[0], p[1], p[2], p[3]);
        Due.put(x, 1, q[0], q[1], q[2], q[3]);
        due.is("alike of " + told(p) + " and " + told(q), x.alike(0, 1), want);
        due.is("alike of " + told(q) + " and " + told(p), x.alike(1, 0), want);
        due.is("status()", x.status(), 0);
    }

    static void promise31_multiples(Due due) {
        alike(due, 1, new long[] {2, 4, 6, 8}, new long[] {-2, -4, -6, -8});
        alike(due, 1, new long[] {2, 4, 6, 8}, new long[] {6, 12, 18, 24});
        alike(due, 1, new long[] {1, 1, 1, 1}, new long[] {31622, 31622, 31622, 31622});
        alike(due, 1, new long[] {4, 4, 4, 0}, new long[] {-6, -6, -6, 0});
        alike(due, 1, new long[] {2, 0, 0, 0}, new long[] {-63244, 0, 0, 0});
        alike(due, 1, new long[] {0, 60000, 20000, 0}, new long[] {0, 6, 2, 0});
    }

    static void promise31_oneNumberBeside(Due due) {
        long[] p = {63000, 2000, 2000, 2000};
        for (int k = 0; k < 4; k++) {
            long[] q = p.clone();
            q[k] -= 2;
            alike(due, 0, p, q);
            q[k] = -p[k];
            alike(due, 0, p, q);
            q[k] = 0;
            alike(due, 0, p, q);
        }
    }

    static void promise31_backIsNotAlike(Due due) {
        alike(due, 0, new long[] {2, 4, 6, 8}, new long[] {2, -4, -6, -8});
        alike(due, 1, new long[] {0, 4, 6, 8}, new long[] {0, -4, -6, -8});
    }

    static void promise31_onlyOneNumberEach(Due due) {
        for (int a = 0; a < 4; a++) {
            for (int b = 0; b < 4; b++) {
                long[] p = new long[4], q = new long[4];
                p[a] = 2;
                q[b] = -6;
                alike(due, a == b ? 1 : 0, p, q);
            }
        }
    }

    static void promise31_changesNothing(Due due) {
        Bench.of(due, "alike(0, 19)", x -> x.alike(0, 19)).answers(0);
        Bench.of(due, "alike(1, 6)", x -> x.alike(1, 6)).answers(1);
        Bench.of(due, "alike(5, 2)", x -> x.alike(5, 2)).answers(1);
    }

    static void promise31_missing(Due due) {
        Bench.of(due, "alike(9, 0)", x -> x.alike(9, 0)).finds(Due.NULL);
        Bench.of(due, "alike(0, 9)", x -> x.alike(0, 9)).finds(Due.NULL);
        Bench.of(due, "alike(9, 9)", x -> x.alike(9, 9)).finds(Due.NULL);
    }

    static void promise31_ofNought(Due due) {
        Bench.of(due, "alike(4, 0)", x -> x.alike(4, 0)).refuses(Due.STATE);
        Bench.of(due, "alike(0, 4)", x -> x.alike(0, 4)).refuses(Due.STATE);
        Bench.of(due, "alike(4, 4)", x -> x.alike(4, 4)).refuses(Due.STATE);
    }

    static void promise31_nullAheadOfState(Due due) {
        Bench.of(due, "alike(4, 9)", x -> x.alike(4, 9)).finds(Due.NULL);
        Bench.of(due, "alike(9, 4)", x -> x.alike(9, 4)).finds(Due.NULL);
    }

    static void promise31_badAheadOfNull(Due due) {
        Bench.outside(due, "alike(%d, 9)", (x, p) -> x.alike(p, 9), Bench.BAD, -1, 20, MIN, MAX);
        Bench.outside(due, "alike(9, %d)", (x, q) -> x.alike(9, q), Bench.BAD, -1, 20, MIN, MAX);
    }

    static void promise31_badAheadOfState(Due due) {
        Bench.outside(due, "alike(%d, 4)", (x, p) -> x.alike(p, 4), Bench.BAD, -1, 20, MIN, MAX);
        Bench.outside(due, "alike(4, %d)", (x, q) -> x.alike(4, q), Bench.BAD, -1, 20, MIN, MAX);
    }

    // ---- promise 32

    static void promise32_slotNumbers(Due due) {
        Bench.span(due, "index(%d)", (x, p) -> x.index(p), Bench.BAD, 0, 15, 19, 15);
    }

    private static void indices(Due due, long index, long[][] fours) {
        for (long[] four : fours) {
            WholeTurns x = Due.with(four[0], four[1], four[2], four[3]);
            due.is("index(0) of " + told(four), x.index(0), index);
            due.is("status()", x.status(), 0);
        }
    }

    static void promise32_onlyTwos(Due due) {
        indices(due, 1, new long[][] {{2, 0, 0, 0}, {2, 2, 0, 0}, {4, 4, 0, 0}, {0, 0, 32, -32}, {2, 2, 2, 2}, {1, 1, -1, 1}});
    }

    static void promise32_dividedAhead(Due due) {
        indices(due, 1, new long[][] {{6, 0, 0, 0}, {3, 3, 3, 3}, {31621, 31621, 31621, 31621}, {63244, 0, 0, 0}});
        indices(due, 3, new long[][] {{9, 3, 3, 3}, {18, 6, 6, 6}, {4, 4, 4, 0}, {12, 12, 12, 0}});
        indices(due, 5, new long[][] {{0, 60000, 20000, 0}});
    }

    static void promise32_allTwosAreTakenOut(Due due) {
        indices(due, 15, new long[][] {{2, 4, 6, 8}, {4, 8, 12, 16}});
        indices(due, 7, new long[][] {{4, 2, 6, 0}, {8, 4, 12, 0}});
    }

    static void promise32_great(Due due) {
        indices(due, 961031021, new long[][] {{62001, 3, 5, 7}});
        indices(due, 999999999, new long[][] {{63245, 1, 43, 261}});
        indices(due, 387420489, new long[][] {{55670, 0, 224, 406}});
    }

    static void promise32_changesNothing(Due due) {
        Bench.of(due, "index(7)", x -> x.index(7)).answers(5);
    }

    static void promise32_missing(Due due) {
        Bench.of(due, "index(9)", x -> x.index(9)).finds(Due.NULL);
    }

    static void promise32_ofNought(Due due) {
        Bench.of(due, "index(4)", x -> x.index(4)).refuses(Due.STATE);
    }

    // ---- promise 33

    static void promise33_slotNumbers(Due due) {
        Bench.span(due, "cell(%d, 0)", (x, p) -> x.cell(p, 0), Bench.BAD, 0, 15, 19, 3);
    }

    static void promise33_placeNumbers(Due due) {
        Bench.span(due, "cell(0, %d)", (x, k) -> x.cell(0, k), Bench.BAD, 0, 15, 5, 1);
    }

    private static void cell(Due due, long[] four, long... cell) {
        WholeTurns x = Due.with(four[0], four[1], four[2], four[3]);
        for (int k = 0; k < 6; k++) {
            due.is("cell(0, " + k + ") of " + told(four), x.cell(0, k), cell[k]);
            due.is("status()", x.status(), 0);
        }
    }

    static void promise33_ofIndexOne(Due due) {
        cell(due, new long[] {2, 0, 0, 0}, 1, 0, 1, 0, 0, 1);
        cell(due, new long[] {1, 1, 1, 1}, 1, 0, 1, 0, 0, 1);
        cell(due, new long[] {2, 2, 0, 0}, 1, 0, 1, 0, 0, 1);
        cell(due, new long[] {63244, 0, 0, 0}, 1, 0, 1, 0, 0, 1);
    }

    static void promise33_greatestIndex(Due due) {
        cell(due, new long[] {34, 6, 0, 2}, 299, 17, 1, 3, 0, 1);
        cell(due, new long[] {-34, 6, 0, 2}, 299, 282, 1, 3, 0, 1);
        cell(due, new long[] {33, 1, 9, 5}, 299, 295, 1, 127, 0, 1);
        cell(due, new long[] {102, 18, 0, 6}, 299, 17, 1, 3, 0, 1);
    }

    static void promise33_aboveTheGreatestIndex(Due due) {
        WholeTurns x = Due.with(34, 4, 4, 4);
        due.is("index(0)", x.index(0), 301);
        x.norm(9);
        for (int k = 0; k < 6; k++) due.is("cell(0, " + k + ")", x.cell(0, k), Due.FULL);
        due.is("status()", x.status(), 1);
        Due.put(x, 1, 102, 12, 12, 12);
        due.is("cell(1, 0) of three times it", x.cell(1, 0), Due.FULL);
        Bench.of(due, "cell(8, 0)", y -> y.cell(8, 0)).refuses(Due.FULL);
        Bench.of(due, "cell(8, 5)", y -> y.cell(8, 5)).refuses(Due.FULL);
    }

    /** The NORM is above 300, the INDEX is not. */
    static void promise33_greatNormsOfSmallIndex(Due due) {
        cell(due, new long[] {0, 60000, 20000, 0}, 5, 3, 1, 0, 0, 1);
        Bench.of(due, "cell(7, 1)", x -> x.cell(7, 1)).answers(3);
    }

    static void promise33_secondNumberBelowThird(Due due) {
        cell(due, new long[] {4, 2, 2, 6}, 3, 2, 5, 0, 2, 1);
        cell(due, new long[] {4, 2, 0, 0}, 1, 0, 5, 0, 2, 1);
    }

    static void promise33_ordinary(Due due) {
        cell(due, new long[] {2, 4, 6, 8}, 15, 10, 1, 8, 0, 1);
        cell(due, new long[] {3, 1, 1, 1}, 3, 2, 1, 2, 0, 1);
        cell(due, new long[] {1, 1, 3, 5}, 9, 5, 1, 8, 0, 1);
        cell(due, new long[] {5, 3, 1, 1}, 9, 4, 1, 8, 0, 1);
    }

    /** Of some FOURS of each NORM up to 150: b and d below a, e below c, none below 0, and a c f is the INDEX. */
    static void promise33_numbersInTheirBounds(Due due) {
        for (int n = 1; n <= 150; n++) {
            WholeTurns x = new WholeTurns();
            int count = x.many(n);
            for (int i = 0; i < 24; i++) {
                x.list(0, n, i * (count / 24));
                long[] c = new long[6];
                for (int k = 0; k < 6; k++) c[k] = x.cell(0, k);
                String call = "cell of list(0, " + n + ", " + i * (count / 24) + ")";
                due.holds(call + ": a, c, f above 0", c[0] > 0 && c[2] > 0 && c[5] > 0);
                due.holds(call + ": b, d from 0 to a - 1", c[1] >= 0 && c[1] < c[0] && c[3] >= 0 && c[3] < c[0]);
                due.holds(call + ": e from 0 to c - 1", c[4] >= 0 && c[4] < c[2]);
                due.is(call + ": a c f", c[0] * c[2] * c[5], x.index(0));
            }
        }
    }

    static void promise33_changesNothing(Due due) {
        Bench.of(due, "cell(0, 1)", x -> x.cell(0, 1)).answers(10);
        Bench.of(due, "cell(19, 4)", x -> x.cell(19, 4)).answers(2);
    }

    static void promise33_missing(Due due) {
        Bench.of(due, "cell(9, 0)", x -> x.cell(9, 0)).finds(Due.NULL);
    }

    static void promise33_ofNought(Due due) {
        Bench.of(due, "cell(4, 0)", x -> x.cell(4, 0)).refuses(Due.STATE);
        Bench.of(due, "cell(4, 5)", x -> x.cell(4, 5)).refuses(Due.STATE);
    }

    static void promise33_badAheadOfNull(Due due) {
        Bench.outside(due, "cell(9, %d)", (x, k) -> x.cell(9, k), Bench.BAD, -1, 6, MIN, MAX);
    }

    static void promise33_badAheadOfState(Due due) {
        Bench.outside(due, "cell(4, %d)", (x, k) -> x.cell(4, k), Bench.BAD, -1, 6, MIN, MAX);
    }

    static void promise33_badAheadOfFull(Due due) {
        Bench.outside(due, "cell(8, %d)", (x, k) -> x.cell(8, k), Bench.BAD, -1, 6, MIN, MAX);
    }
}
