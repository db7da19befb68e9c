/** The boundary cases of promises 18, 19 and 22, a test for each: FOURS divided, GREATEST, and PARTS. */
final class DivisionEdges {
    private static final int MIN = Integer.MIN_VALUE, MAX = Integer.MAX_VALUE;

    private DivisionEdges() {
    }

    // ---- promise 18

    static void promise18_toNumbers(Due due) {
        Bench.span(due, "over(%d, 10, 0, 3, 0)", (x, to) -> x.over(to, 10, 0, 3, 0), Bench.BAD, 0, 1, 19, 1);
    }

    static void promise18_restNumbers(Due due) {
        Bench.span(due, "over(10, %d, 0, 3, 0)", (x, rest) -> x.over(10, rest, 0, 3, 0), Bench.BAD, 0, 1, 19, 1);
    }

    static void promise18_firstNumbers(Due due) {
        Bench.span(due, "over(9, 10, %d, 3, 1)", (x, p) -> x.over(9, 10, p, 3, 1), Bench.BAD, 0, 0, 19, 1);
    }

    static void promise18_secondNumbers(Due due) {
        Bench.span(due, "over(9, 10, 3, %d, 0)", (x, q) -> x.over(9, 10, 3, q, 0), Bench.BAD, 0, 3, 19, 3);
    }

    static void promise18_sideNumbers(Due due) {
        Bench.span(due, "over(9, 10, 0, 3, %d)", (x, side) -> x.over(9, 10, 0, 3, side), Bench.BAD, 0, 1, 1, 0);
    }

    static void promise18_bothSides(Due due) {
        Bench.of(due, "over(9, 10, 0, 3, 0)", x -> x.over(9, 10, 0, 3, 0)).four(9, 3, 4, 2, 4, 4).four(10, 4, 1, -1, -1, -1).answers(1);
        Bench.of(due, "over(9, 10, 0, 3, 1)", x -> x.over(9, 10, 0, 3, 1)).four(9, 2, 4, 2, 2, 4).four(10, 0, 0, 0, 0, 0).answers(0);
    }

    static void promise18_toAndRestTheSame(Due due) {
        Bench.of(due, "over(9, 9, 0, 3, 0)", x -> x.over(9, 9, 0, 3, 0)).four(9, 3, 4, 2, 4, 4).answers(1);
        Bench.of(due, "over(0, 0, 0, 3, 0)", x -> x.over(0, 0, 0, 3, 0)).four(0, 3, 4, 2, 4, 4).answers(1);
        Bench.of(due, "over(3, 3, 0, 3, 0)", x -> x.over(3, 3, 0, 3, 0)).four(3, 3, 4, 2, 4, 4).answers(1);
    }

    static void promise18_ontoBoth(Due due) {
        Bench.of(due, "over(0, 3, 0, 3, 0)", x -> x.over(0, 3, 0, 3, 0)).four(0, 3, 4, 2, 4, 4).four(3, 4, 1, -1, -1, -1).answers(1);
        Bench.of(due, "over(3, 0, 0, 3, 0)", x -> x.over(3, 0, 0, 3, 0)).four(3, 3, 4, 2, 4, 4).four(0, 4, 1, -1, -1, -1).answers(1);
        Bench.of(due, "over(0, 10, 0, 3, 0)", x -> x.over(0, 10, 0, 3, 0)).four(0, 3, 4, 2, 4, 4).four(10, 4, 1, -1, -1, -1).answers(1);
        Bench.of(due, "over(9, 0, 0, 3, 0)", x -> x.over(9, 0, 0, 3, 0)).four(9, 3, 4, 2, 4, 4).four(0, 4, 1, -1, -1, -1).answers(1);
    }

    static void promise18_allTheSame(Due due) {
        Bench.of(due, "over(0, 0, 0, 0, 1)", x -> x.over(0, 0, 0, 0, 1)).four(0, 4, 2, 0, 0, 0).answers(0);
    }

    static void promise18_ofNought(Due due) {
        Bench.of(due, "over(9, 10, 4, 3, 0)", x -> x.over(9, 10, 4, 3, 0)).four(9, 0, 0, 0, 0, 0).four(10, 0, 0, 0, 0, 0).answers(0);
    }

    static void promise18_byNought(Due due) {
        Bench.of(due, "over(0, 19, 0, 4, 0)", x -> x.over(0, 19, 0, 4, 0)).refuses(Due.STATE);
        Bench.of(due, "over(9, 10, 0, 4, 1)", x -> x.over(9, 10, 0, 4, 1)).refuses(Due.STATE);
        Bench.of(due, "over(4, 4, 4, 4, 0)", x -> x.over(4, 4, 4, 4, 0)).refuses(Due.STATE);
    }

    static void promise18_missing(Due due) {
        Bench.of(due, "over(0, 3, 9, 19, 0)", x -> x.over(0, 3, 9, 19, 0)).finds(Due.NULL);
        Bench.of(due, "over(0, 3, 19, 9, 0)", x -> x.over(0, 3, 19, 9, 0)).finds(Due.NULL);
        Bench.of(due, "over(9, 10, 18, 18, 1)", x -> x.over(9, 10, 18, 18, 1)).finds(Due.NULL);
    }

    static void promise18_nullAheadOfState(Due due) {
        Bench.of(due, "over(0, 3, 9, 4, 0)", x -> x.over(0, 3, 9, 4, 0)).finds(Due.NULL);
    }

    static void promise18_badAheadOfNull(Due due) {
        Bench.outside(due, "over(%d, 0, 9, 9, 0)", (x, to) -> x.over(to, 0, 9, 9, 0), Bench.BAD, -1, 20);
        Bench.outside(due, "over(0, %d, 9, 9, 0)", (x, rest) -> x.over(0, rest, 9, 9, 0), Bench.BAD, -1, 20);
        Bench.outside(due, "over(0, 0, %d, 9, 0)", (x, p) -> x.over(0, 0, p, 9, 0), Bench.BAD, -1, 20);
        Bench.outside(due, "over(0, 0, 9, %d, 0)", (x, q) -> x.over(0, 0, 9, q, 0), Bench.BAD, -1, 20);
        Bench.outside(due, "over(0, 0, 9, 9, %d)", (x, side) -> x.over(0, 0, 9, 9, side), Bench.BAD, -1, 2, MIN, MAX);
    }

    static void promise18_badAheadOfState(Due due) {
        Bench.outside(due, "over(%d, 0, 0, 4, 0)", (x, to) -> x.over(to, 0, 0, 4, 0), Bench.BAD, -1, 20);
        Bench.outside(due, "over(0, %d, 0, 4, 0)", (x, rest) -> x.over(0, rest, 0, 4, 0), Bench.BAD, -1, 20);
        Bench.outside(due, "over(0, 0, 0, 4, %d)", (x, side) -> x.over(0, 0, 0, 4, side), Bench.BAD, -1, 2);
    }

    static void promise18_byAUnitNothingIsLeft(Due due) {
        Bench.of(due, "over(9, 10, 7, 1, 0)", x -> x.over(9, 10, 7, 1, 0)).four(9, 0, 0, 60000, 20000, 0).four(10, 0, 0, 0, 0, 0).answers(0);
        Bench.of(due, "over(9, 10, 0, 2, 0)", x -> x.over(9, 10, 0, 2, 0)).four(9, 2, 10, 0, 4, 2).four(10, 0, 0, 0, 0, 0).answers(0);
        Bench.of(due, "over(9, 10, 0, 2, 1)", x -> x.over(9, 10, 0, 2, 1)).four(9, 2, 10, 2, 0, 4).four(10, 0, 0, 0, 0, 0).answers(0);
    }

    static void promise18_ofTheGreatestNorm(Due due) {
        Bench.of(due, "over(9, 10, 7, 3, 0)", x -> x.over(9, 10, 7, 3, 0))
            .four(9, 3, 13334, 33334, 0, 6666).four(10, 4, -1, -1, -1, 1).answers(1);
        Bench.of(due, "over(9, 10, 7, 19, 1)", x -> x.over(9, 10, 7, 19, 1))
            .four(9, 2, 5334, 4000, 14666, -2666).four(10, 3, 0, 2, 0, -4).answers(5);
    }

    /** p by q = 10 to both sides: what t is, told twice as great, and so are p's and q's numbers. */
    private static void byTen(Due due, long[][] rows) {
        for (long[] row : rows) by(due, 20, row);
    }

    private static void by(Due due, long q, long[] row) {
        for (int side = 0; side < 2; side++) {
            String call = "over(2, 3, 0, 1, " + side + ") of " + row[0] + " " + row[1] + " " + row[2] + " " + row[3] + " by " + q;
            WholeTurns x = Due.with(row[0], row[1], row[2], row[3]);
            Due.put(x, 1, q, 0, 0, 0);
            long norm = 0;
            for (int k = 0; k < 4; k++) norm += square(row[k] - q / 2 * row[4 + k]);
            due.is(call, x.over(2, 3, 0, 1, side), norm / 4);
            for (int k = 0; k < 4; k++) {
                due.is("number(2, " + k + ") behind " + call, x.number(2, k), row[4 + k]);
                due.is("number(3, " + k + ") behind " + call, x.number(3, k), row[k] - q / 2 * row[4 + k]);
            }
        }
    }

    private static long square(long number) {
        return number * number;
    }

    static void promise18_ofTwoNearestTheGreater(Due due) {
        byTen(due, new long[][] {{10, 0, 0, 0, 2, 0, 0, 0}, {-10, 0, 0, 0, 0, 0, 0, 0}, {30, 0, 0, 0, 4, 0, 0, 0}, {-30, 0, 0, 0, -2, 0, 0, 0},
            {0, 0, 0, 10, 0, 0, 0, 2}, {0, 0, 0, -10, 0, 0, 0, 0}, {0, 10, 0, 0, 0, 2, 0, 0}, {0, 0, -30, 0, 0, 0, -2, 0}});
    }

    static void promise18_nearestJustBesideAHalf(Due due) {
        byTen(due, new long[][] {{8, 0, 0, 0, 0, 0, 0, 0}, {12, 0, 0, 0, 2, 0, 0, 0}, {-8, 0, 0, 0, 0, 0, 0, 0}, {-12, 0, 0, 0, -2, 0, 0, 0},
            {9, 1, 1, 1, 0, 0, 0, 0}, {11, 1, 1, 1, 2, 0, 0, 0}, {-11, -1, -1, -1, -2, 0, 0, 0}, {-9, 1, -1, 1, 0, 0, 0, 0}});
    }

    /** What lies between has the same sum of squares for e and f. */
    static void promise18_alikeNearIsWhole(Due due) {
        byTen(due, new long[][] {{6, 6, 8, 0, 0, 0, 0, 0}, {-6, -6, -8, 0, 0, 0, 0, 0}, {14, 14, 12, 20, 2, 2, 2, 2}, {5, 5, 5, 5, 0, 0, 0, 0},
            {10, 10, 0, 0, 2, 2, 0, 0}, {-10, 10, 0, 0, 0, 2, 0, 0}, {10, 0, 0, -10, 2, 0, 0, 0}, {15, 15, 15, 15, 2, 2, 2, 2}});
    }

    static void promise18_nearerHalvesAreTaken(Due due) {
        byTen(due, new long[][] {{6, 8, 8, 0, 1, 1, 1, 1}, {-6, -8, -8, 0, -1, -1, -1, 1}, {14, 12, 12, 20, 1, 1, 1, 3}, {5, 5, 5, 7, 1, 1, 1, 1},
            {10, 10, 2, 0, 1, 1, 1, 1}, {10, 10, 10, 10, 1, 1, 1, 1}, {-10, -10, -10, -10, -1, -1, -1, -1}, {-30, 10, 30, -10, -3, 1, 3, -1}});
    }

    static void promise18_nearerWholeOnesAreTaken(Due due) {
        byTen(due, new long[][] {{6, 6, 6, 0, 0, 0, 0, 0}, {5, 5, 5, 3, 0, 0, 0, 0}, {14, 14, 14, 20, 2, 2, 2, 2}, {20, 0, 0, 0, 2, 0, 0, 0}});
    }

    /** The greatest whole number that is not above a whole one is that one: its half is behind it. */
    static void promise18_halvesBehindAWholeNumber(Due due) {
        byTen(due, new long[][] {{10, 10, 10, 20, 1, 1, 1, 3}, {10, 10, 10, -20, 1, 1, 1, -1}, {10, 10, 10, 0, 1, 1, 1, 1}});
    }

    /** By 31621, with fractions of five digits: all numbers together 31621 are alike near, 31622 are not. */
    static void promise18_alikeNearInGreatFractions(Due due) {
        long q = 2 * 31621;
        by(due, q, new long[] {15810, 15810, 15810, 15810, 0, 0, 0, 0});
        by(due, q, new long[] {15810, 15810, 15810, 15812, 0, 0, 0, 0});
        by(due, q, new long[] {15812, 15810, 15810, 15812, 1, 1, 1, 1});
        by(due, q, new long[] {-15810, 15810, -15810, 15812, 0, 0, 0, 0});
        by(due, q, new long[] {-15812, 15810, -15810, -15812, -1, 1, -1, -1});
    }

    /** Of all pairs of some lists: the rest's NORM is less than q's, and p is q times t, or t times q, and the rest. */
    static void promise18_theRestIsLess(Due due) {
        for (int n = 1; n <= 12; n++) {
            for (int m = 1; m <= 7; m++) {
                for (int side = 0; side < 2; side++) restIsLess(due, n, m, side);
            }
        }
    }

    private static void restIsLess(Due due, int n, int m, int side) {
        WholeTurns x = new WholeTurns();
        for (int i = 0; i < 24; i++) {
            x.list(0, n, i);
            x.list(1, m, 23 - i);
            String call = "over(2, 3, 0, 1, " + side + ") of NORMS " + n + " and " + m + ", " + i;
            long norm = x.over(2, 3, 0, 1, side);
            due.holds(call + ": the rest is less", norm >= 0 && norm < m);
            x.times(4, side == 0 ? 1 : 2, side == 0 ? 2 : 1);
            x.sum(4, 4, 3);
            for (int k = 0; k < 4; k++) due.is(call + ": p again", x.number(4, k), x.number(0, k));
        }
    }

    // ---- promise 19

    static void promise19_toNumbers(Due due) {
        Bench.span(due, "greatest(%d, 0, 3, 1)", (x, to) -> x.greatest(to, 0, 3, 1), Bench.BAD, 0, 3, 19, 3);
    }

    static void promise19_firstNumbers(Due due) {
        Bench.span(due, "greatest(9, %d, 3, 1)", (x, p) -> x.greatest(9, p, 3, 1), Bench.BAD, 0, 3, 19, 1);
    }

    static void promise19_secondNumbers(Due due) {
        Bench.span(due, "greatest(9, 3, %d, 1)", (x, q) -> x.greatest(9, 3, q, 1), Bench.BAD, 0, 3, 19, 1);
    }

    static void promise19_sideNumbers(Due due) {
        Bench.span(due, "greatest(9, 0, 3, %d)", (x, side) -> x.greatest(9, 0, 3, side), Bench.BAD, 0, 1, 1, 3);
    }

    static void promise19_withNought(Due due) {
        Bench.of(due, "greatest(9, 0, 4, 0)", x -> x.greatest(9, 0, 4, 0)).four(9, 2, 10, 2, 0, 4).answers(30);
        Bench.of(due, "greatest(9, 0, 4, 1)", x -> x.greatest(9, 0, 4, 1)).four(9, 2, 10, 0, 4, 2).answers(30);
    }

    static void promise19_ofNought(Due due) {
        Bench.of(due, "greatest(9, 4, 19, 0)", x -> x.greatest(9, 4, 19, 0)).four(9, 2, 7, 1, -3, 1).answers(15);
        Bench.of(due, "greatest(9, 4, 19, 1)", x -> x.greatest(9, 4, 19, 1)).four(9, 2, 7, -3, 1, 1).answers(15);
    }

    static void promise19_bothNought(Due due) {
        Bench.of(due, "greatest(0, 4, 4, 0)", x -> x.greatest(0, 4, 4, 0)).refuses(Due.STATE);
        Bench.of(due, "greatest(9, 4, 4, 1)", x -> x.greatest(9, 4, 4, 1)).refuses(Due.STATE);
    }

    static void promise19_ofTwoThatAreTheSame(Due due) {
        Bench.of(due, "greatest(9, 0, 0, 0)", x -> x.greatest(9, 0, 0, 0)).four(9, 2, 10, 2, 0, 4).answers(30);
        Bench.of(due, "greatest(0, 0, 0, 1)", x -> x.greatest(0, 0, 0, 1)).four(0, 2, 10, 0, 4, 2).answers(30);
    }

    static void promise19_withAUnit(Due due) {
        Bench.of(due, "greatest(9, 7, 2, 0)", x -> x.greatest(9, 7, 2, 0)).four(9, 4, 2, 0, 0, 0).answers(1);
        Bench.of(due, "greatest(9, 2, 7, 1)", x -> x.greatest(9, 2, 7, 1)).four(9, 4, 2, 0, 0, 0).answers(1);
    }

    static void promise19_ontoOneOfThem(Due due) {
        Bench.of(due, "greatest(0, 0, 3, 1)", x -> x.greatest(0, 0, 3, 1)).four(0, 3, 3, 1, 1, 1).answers(3);
        Bench.of(due, "greatest(19, 0, 19, 1)", x -> x.greatest(19, 0, 19, 1)).four(19, 4, 2, 0, 0, 0).answers(1);
    }

    /** To side 0 both are 3 + i + j times something, to side 1 something times it. */
    static void promise19_divides(Due due) {
        for (int side = 0; side < 2; side++) {
            WholeTurns x = Due.with(6, 2, 2, 0);
            Due.put(x, 1, 3, 1, 5, 7);
            Due.put(x, 2, 2, 8, 0, 6);
            x.times(3, side == 0 ? 0 : 1, side == 0 ? 1 : 0);
            x.times(4, side == 0 ? 0 : 2, side == 0 ? 2 : 0);
            due.is("greatest(5, 3, 4, " + side + ")", x.greatest(5, 3, 4, side), 11);
            due.is("over(6, 7, 3, 5, " + side + ")", x.over(6, 7, 3, 5, side), 0);
            due.is("over(6, 7, 4, 5, " + side + ")", x.over(6, 7, 4, 5, side), 0);
            due.is("associate(8, 5, 1 - side) is itself", x.associate(8, 5, 1 - side), x.kind(5));
            due.numbers(x, 8, x.number(5, 0), x.number(5, 1), x.number(5, 2), x.number(5, 3));
        }
    }

    static void promise19_missing(Due due) {
        Bench.of(due, "greatest(0, 9, 19, 0)", x -> x.greatest(0, 9, 19, 0)).finds(Due.NULL);
        Bench.of(due, "greatest(0, 19, 9, 0)", x -> x.greatest(0, 19, 9, 0)).finds(Due.NULL);
    }

    static void promise19_nullAheadOfState(Due due) {
        Bench.of(due, "greatest(0, 4, 9, 0)", x -> x.greatest(0, 4, 9, 0)).finds(Due.NULL);
        Bench.of(due, "greatest(0, 9, 4, 0)", x -> x.greatest(0, 9, 4, 0)).finds(Due.NULL);
    }

    static void promise19_badAheadOfNull(Due due) {
        Bench.outside(due, "greatest(%d, 9, 9, 0)", (x, to) -> x.greatest(to, 9, 9, 0), Bench.BAD, -1, 20);
        Bench.outside(due, "greatest(0, %d, 9, 0)", (x, p) -> x.greatest(0, p, 9, 0), Bench.BAD, -1, 20);
        Bench.outside(due, "greatest(0, 9, %d, 0)", (x, q) -> x.greatest(0, 9, q, 0), Bench.BAD, -1, 20);
        Bench.outside(due, "greatest(0, 9, 9, %d)", (x, side) -> x.greatest(0, 9, 9, side), Bench.BAD, -1, 2);
    }

    static void promise19_badAheadOfState(Due due) {
        Bench.outside(due, "greatest(%d, 4, 4, 0)", (x, to) -> x.greatest(to, 4, 4, 0), Bench.BAD, -1, 20);
        Bench.outside(due, "greatest(0, 4, 4, %d)", (x, side) -> x.greatest(0, 4, 4, side), Bench.BAD, -1, 2);
    }

    // ---- promise 22

    static void promise22_toNumbers(Due due) {
        Bench.span(due, "part(%d, 0, 0)", (x, to) -> x.part(to, 0, 0), Bench.BAD, 0, 4, 19, 4);
    }

    static void promise22_ofNumbers(Due due) {
        Bench.span(due, "part(9, %d, 0)", (x, p) -> x.part(9, p, 0), Bench.BAD, 0, 4, 19, 3);
    }

    static void promise22_firstAndLastPart(Due due) {
        Bench.of(due, "part(9, 0, 0)", x -> x.part(9, 0, 0)).four(9, 3, 2, 2, 0, 0).answers(4);
        Bench.of(due, "part(9, 0, 1)", x -> x.part(9, 0, 1)).four(9, 3, 3, 1, 1, 1).answers(4);
        Bench.of(due, "part(9, 0, 2)", x -> x.part(9, 0, 2)).four(9, 3, 4, 0, 0, 2).answers(4);
        Bench.of(due, "part(9, 0, 3)", x -> x.part(9, 0, 3)).four(9, 4, 1, 1, 1, -1).answers(4);
    }

    /** NONE is an answer without a FINDING. */
    static void promise22_noSuchPart(Due due) {
        Bench.outside(due, "part(9, 0, %d)", (x, i) -> x.part(9, 0, i), call -> call.answers(Due.NONE), -1, 4, 5, MIN, MAX);
        Bench.outside(due, "part(0, 0, %d) onto itself", (x, i) -> x.part(0, 0, i), call -> call.answers(Due.NONE), -1, 4);
    }

    static void promise22_toItself(Due due) {
        Bench.of(due, "part(0, 0, 2)", x -> x.part(0, 0, 2)).four(0, 3, 4, 0, 0, 2).answers(4);
    }

    static void promise22_aPrimeHasTwo(Due due) {
        Bench.of(due, "part(9, 3, 0)", x -> x.part(9, 3, 0)).four(9, 3, 3, 1, 1, 1).answers(2);
        Bench.of(due, "part(9, 3, 1)", x -> x.part(9, 3, 1)).four(9, 4, 2, 0, 0, 0).answers(2);
        Bench.of(due, "part(9, 3, 2)", x -> x.part(9, 3, 2)).answers(Due.NONE);
    }

    private static void parts(Due due, long[] four, long[][] parts) {
        WholeTurns x = Due.with(four[0], four[1], four[2], four[3]);
        for (int i = 0; i < parts.length; i++) {
            due.is("part(1, 0, " + i + ") of " + four[0], x.part(1, 0, i), parts.length);
            due.numbers(x, 1, parts[i][0], parts[i][1], parts[i][2], parts[i][3]);
            due.is("kind(1)", x.kind(1), i == parts.length - 1 ? 4 : 3);
        }
        due.is("part(1, 0, " + parts.length + ") of " + four[0], x.part(1, 0, parts.length), Due.NONE);
    }

    static void promise22_ofNormTwo(Due due) {
        parts(due, new long[] {2, 2, 0, 0}, new long[][] {{2, 2, 0, 0}, {2, 0, 0, 0}});
        parts(due, new long[] {0, 0, 2, -2}, new long[][] {{2, 2, 0, 0}, {0, 0, 0, -2}});
    }

    static void promise22_aPrimeNumberTwice(Due due) {
        parts(due, new long[] {5, 3, 1, 1}, new long[][] {{3, 1, -1, 1}, {3, 1, 1, -1}, {2, 0, 0, 0}});
        parts(due, new long[] {1, 1, 3, 5}, new long[][] {{3, 1, 1, 1}, {3, 1, 1, -1}, {1, -1, 1, 1}});
        parts(due, new long[] {4, 4, 2, 0}, new long[][] {{3, 1, 1, -1}, {3, 1, 1, 1}, {2, 0, 0, 0}});
    }

    static void promise22_theUnitHasTheSign(Due due) {
        parts(due, new long[] {-2, -4, -6, -8}, new long[][] {{2, 2, 0, 0}, {3, 1, 1, 1}, {4, 0, 0, 2}, {-1, -1, -1, 1}});
    }

    static void promise22_ofAGreatNorm(Due due) {
        parts(due, new long[] {62001, 3, 5, 7}, new long[][] {{12, -2, -4, 0}, {15, 9, 5, 1}, {993, -337, -9, -173}, {2, 0, 0, 0}});
        parts(due, new long[] {63245, 5, 23, 263}, new long[][] {{63245, 5, 23, 263}, {2, 0, 0, 0}});
    }

    /** 2 and 18 times 3: no NORM has more prime numbers. They make the FOUR again. */
    static void promise22_mostParts(Due due) {
        WholeTurns x = Due.with(55670, 0, 224, 406);
        due.is("norm(0)", x.norm(0), 774840978);
        Due.put(x, 1, 2, 0, 0, 0);
        for (int i = 0; i < 20; i++) {
            due.is("part(2, 0, " + i + ")", x.part(2, 0, i), 20);
            due.is("norm(2) of part " + i, x.norm(2), i == 0 ? 2 : i < 19 ? 3 : 1);
            x.times(1, 1, 2);
        }
        due.numbers(x, 1, 55670, 0, 224, 406);
        due.is("part(2, 0, 20)", x.part(2, 0, 20), Due.NONE);
        due.is("norm(2) is the last one's", x.norm(2), 1);
    }

    static void promise22_ofAUnit(Due due) {
        Bench.of(due, "part(9, 1, 0)", x -> x.part(9, 1, 0)).refuses(Due.STATE);
        Bench.of(due, "part(0, 2, 0)", x -> x.part(0, 2, 0)).refuses(Due.STATE);
    }

    static void promise22_ofNought(Due due) {
        Bench.of(due, "part(0, 4, 0)", x -> x.part(0, 4, 0)).refuses(Due.STATE);
    }

    static void promise22_ofWhatIsNotPlain(Due due) {
        Bench.of(due, "part(0, 5, 0)", x -> x.part(0, 5, 0)).refuses(Due.STATE);
        Bench.of(due, "part(0, 6, 0)", x -> x.part(0, 6, 0)).refuses(Due.STATE);
        Bench.of(due, "part(9, 7, 0)", x -> x.part(9, 7, 0)).refuses(Due.STATE);
    }

    static void promise22_stateAheadOfNone(Due due) {
        for (int slot : new int[] {1, 2, 4, 5, 6, 7}) {
            Bench.outside(due, "part(9, " + slot + ", %d)", (x, i) -> x.part(9, slot, i), call -> call.refuses(Due.STATE), -1, 1, 99, MAX);
        }
    }

    static void promise22_missing(Due due) {
        Bench.of(due, "part(0, 9, 0)", x -> x.part(0, 9, 0)).finds(Due.NULL);
    }

    static void promise22_nullAheadOfNone(Due due) {
        Bench.outside(due, "part(0, 9, %d)", (x, i) -> x.part(0, 9, i), call -> call.finds(Due.NULL), -1, 99, MIN, MAX);
    }

    static void promise22_badAheadOfNull(Due due) {
        Bench.outside(due, "part(%d, 9, 0)", (x, to) -> x.part(to, 9, 0), Bench.BAD, -1, 20, MIN, MAX);
    }

    static void promise22_badAheadOfState(Due due) {
        Bench.outside(due, "part(%d, 4, 0)", (x, to) -> x.part(to, 4, 0), Bench.BAD, -1, 20);
    }

    static void promise22_badAheadOfNone(Due due) {
        Bench.outside(due, "part(%d, 0, 9)", (x, to) -> x.part(to, 0, 9), Bench.BAD, -1, 20);
        Bench.outside(due, "part(0, %d, -1)", (x, p) -> x.part(0, p, -1), Bench.BAD, -1, 20);
    }
}
