import java.util.Arrays;

/** Promises 15 to 22: FOURS joined, divided and parted. */
final class JoinedPromises {
    private JoinedPromises() {
    }

    /** 0: 1 + 2i + 3j + 4k, 1: 2 + i + j + 3k, 2: a half of each, 3: 0; SLOT 9 is missing. */
    private static WholeTurns bench() {
        WholeTurns x = new WholeTurns();
        Due.put(x, 0, 2, 4, 6, 8);
        Due.put(x, 1, 4, 2, 2, 6);
        Due.put(x, 2, 1, 1, 1, 1);
        Due.put(x, 3, 0, 0, 0, 0);
        return x;
    }

    static void promise15(Due due) {
        WholeTurns x = bench();
        due.is("times(4, 0, 1)", x.times(4, 0, 1), 0);
        due.numbers(x, 4, -30, 20, 10, 20);
        due.is("times(4, 1, 0)", x.times(4, 1, 0), 0);
        due.numbers(x, 4, -30, 0, 18, 24);
        due.is("times(4, 2, 0)", x.times(4, 2, 0), 2);
        due.numbers(x, 4, -8, 4, 2, 6);
        due.is("times(4, 2, 2)", x.times(4, 2, 2), 4);
        due.numbers(x, 4, -1, 1, 1, 1);
        due.is("times(4, 3, 0)", x.times(4, 3, 0), 0);
        due.numbers(x, 4, 0, 0, 0, 0);
        unitsTimes(due);
        x = bench();
        due.is("times(2, 2, 2) onto itself", x.times(2, 2, 2), 4);
        due.numbers(x, 2, -1, 1, 1, 1);
        due.is("times(0, 0, 1) onto the first", x.times(0, 0, 1), 0);
        due.numbers(x, 0, -30, 20, 10, 20);
        x = bench();
        due.is("times(1, 0, 1) onto the second", x.times(1, 0, 1), 0);
        due.numbers(x, 1, -30, 20, 10, 20);
        timesRefuses(due);
    }

    /** i j is k, and what else is told of i, j, k: each row is a, b, and what a times b is. */
    private static void unitsTimes(Due due) {
        int[][] told = {{1, 1, -4}, {2, 2, -4}, {3, 3, -4}, {1, 2, 3}, {2, 3, 1}, {3, 1, 2}, {2, 1, -3}, {3, 2, -1}, {1, 3, -2}};
        for (int[] row : told) {
            WholeTurns x = new WholeTurns();
            for (int i = 1; i < 4; i++) Due.put(x, i, 0, i == 1 ? 2 : 0, i == 2 ? 2 : 0, i == 3 ? 2 : 0);
            due.is("times of units", x.times(5, row[0], row[1]), 4);
            int place = Math.abs(row[2]) % 4;
            for (int k = 0; k < 4; k++) due.is("number(5, " + k + ")", x.number(5, k), k == place ? 2 * Integer.signum(row[2]) : 0);
        }
    }

    private static void timesRefuses(Due due) {
        WholeTurns x = new WholeTurns();
        Due.put(x, 0, 0, 60000, 20000, 0);
        Due.put(x, 1, 2, 2, 0, 0);
        Due.put(x, 2, 0, 0, 0, 2);
        Due.put(x, 3, 0, 0, 0, 0);
        due.is("times(4, 9, 0)", x.times(4, 9, 0), Due.NULL);
        due.is("status()", x.status(), 1);
        due.is("times(4, 0, 1)", x.times(4, 0, 1), Due.FULL);
        due.is("times(4, 0, 0)", x.times(4, 0, 0), Due.FULL);
        due.is("status() is as it was", x.status(), 1);
        due.is("number(4, 0) was not made", x.number(4, 0), Due.NULL);
        due.is("times(4, 0, 2)", x.times(4, 0, 2), 0);
        due.is("status()", x.status(), 0);
        due.is("norm(4)", x.norm(4), 1000000000);
        due.is("times(4, 0, 3)", x.times(4, 0, 3), 0);
        due.is("times(4, 0, 9)", x.times(4, 0, 9), Due.NULL);
        int[] wrong = {-1, 20, Integer.MAX_VALUE, Integer.MIN_VALUE};
        for (int slot : wrong) {
            due.is("times(" + slot + ", 1, 1)", x.times(slot, 1, 1), Due.BAD);
            due.is("times(1, " + slot + ", 9)", x.times(1, slot, 9), Due.BAD);
            due.is("times(1, 9, " + slot + ")", x.times(1, 9, slot), Due.BAD);
        }
    }

    static void promise16(Due due) {
        WholeTurns x = bench();
        x.norm(9);
        due.is("sum(4, 0, 1)", x.sum(4, 0, 1), 3);
        due.is("status()", x.status(), 0);
        due.numbers(x, 4, 6, 6, 8, 14);
        due.is("sum(4, 0, 2)", x.sum(4, 0, 2), 3);
        due.numbers(x, 4, 3, 5, 7, 9);
        due.is("sum(2, 2, 2)", x.sum(2, 2, 2), 0);
        due.numbers(x, 2, 2, 2, 2, 2);
        due.is("sum(0, 0, 3)", x.sum(0, 0, 3), 2);
        due.is("sum(1, 0, 1)", x.sum(1, 0, 1), 3);
        due.is("sum(4, 9, 0)", x.sum(4, 9, 0), Due.NULL);
        due.is("sum(4, 0, 9)", x.sum(4, 0, 9), Due.NULL);
        due.is("status()", x.status(), 1);
        Due.put(x, 5, 31622, 31622, 31622, 31622);
        Due.put(x, 6, 1, 1, 1, 1);
        Due.put(x, 7, 0, 60000, 20000, 0);
        x.norm(9);
        due.is("sum(4, 5, 6)", x.sum(4, 5, 6), Due.FULL);
        due.is("sum(4, 7, 7)", x.sum(4, 7, 7), Due.FULL);
        due.is("status() is as it was", x.status(), 1);
        due.numbers(x, 4, 3, 5, 7, 9);
        for (int slot : new int[] {-1, 20}) {
            due.is("sum(" + slot + ", 0, 0)", x.sum(slot, 0, 0), Due.BAD);
            due.is("sum(0, " + slot + ", 9)", x.sum(0, slot, 9), Due.BAD);
            due.is("sum(0, 9, " + slot + ")", x.sum(0, 9, slot), Due.BAD);
        }
    }

    static void promise17(Due due) {
        WholeTurns x = bench();
        x.norm(9);
        due.is("back(4, 0)", x.back(4, 0), 2);
        due.is("status()", x.status(), 0);
        due.numbers(x, 4, 2, -4, -6, -8);
        due.is("back(2, 2)", x.back(2, 2), 4);
        due.numbers(x, 2, 1, -1, -1, -1);
        due.is("back(4, 3)", x.back(4, 3), 0);
        due.is("back(4, 9)", x.back(4, 9), Due.NULL);
        due.is("status()", x.status(), 1);
        for (int slot : new int[] {-1, 20}) {
            due.is("back(" + slot + ", 0)", x.back(slot, 0), Due.BAD);
            due.is("back(0, " + slot + ")", x.back(0, slot), Due.BAD);
        }
    }

    static void promise18(Due due) {
        WholeTurns x = bench();
        x.times(5, 0, 1);
        x.norm(9);
        due.is("over(6, 7, 5, 0, 0)", x.over(6, 7, 5, 0, 0), 0);
        due.is("status()", x.status(), 0);
        due.numbers(x, 6, 4, 2, 2, 6);
        due.numbers(x, 7, 0, 0, 0, 0);
        due.is("over(6, 7, 5, 1, 1)", x.over(6, 7, 5, 1, 1), 0);
        due.numbers(x, 6, 2, 4, 6, 8);
        due.is("over(6, 6, 1, 0, 1): the quotient stays", x.over(6, 6, 1, 0, 1), 7);
        due.is("norm(6)", x.norm(6), 1);
        due.is("over(6, 7, 3, 0, 0) of 0", x.over(6, 7, 3, 0, 0), 0);
        due.is("norm(6)", x.norm(6), 0);
        overNearest(due);
        overItself(due);
        overRefuses(due);
    }

    /** By 2: a half goes up in e; e and f alike near: e; f nearer: f. */
    private static void overNearest(Due due) {
        long[][] rows = {
            {2, 0, 0, 0, 2, 0, 0, 0, 1}, {-2, 0, 0, 0, 0, 0, 0, 0, 1}, {2, 2, 0, 0, 2, 2, 0, 0, 2},
            {-2, 2, 0, 0, 0, 2, 0, 0, 2}, {2, 2, 2, 0, 1, 1, 1, 1, 1}, {2, 2, -2, 0, 1, 1, -1, 1, 1},
            {2, 2, 2, 2, 1, 1, 1, 1, 0}, {-2, -2, 2, 2, -1, -1, 1, 1, 0}, {1, 1, 1, 1, 0, 0, 0, 0, 1},
            {3, 3, 3, 3, 2, 2, 2, 2, 1}, {-1, -1, -1, -1, 0, 0, 0, 0, 1}, {-3, 3, -3, 3, -2, 2, -2, 2, 1}};
        for (long[] row : rows) {
            for (int side = 0; side < 2; side++) {
                WholeTurns x = Due.with(row[0], row[1], row[2], row[3]);
                Due.put(x, 1, 4, 0, 0, 0);
                due.is("over 2 of " + row[0] + " " + row[1] + " " + row[2] + " " + row[3], x.over(2, 3, 0, 1, side), row[8]);
                due.numbers(x, 2, row[4], row[5], row[6], row[7]);
                for (int k = 0; k < 4; k++) due.is("rest", x.number(3, k), row[k] - 2 * row[4 + k]);
            }
        }
    }

    private static void overItself(Due due) {
        WholeTurns x = bench();
        due.is("over(0, 1, 0, 1, 0) onto both", x.over(0, 1, 0, 1, 0), 3);
        due.numbers(x, 0, 3, 1, 1, 1);
        due.numbers(x, 1, 1, 1, -1, -3);
        x = bench();
        due.is("over(1, 0, 0, 1, 1) onto both, crossed", x.over(1, 0, 0, 1, 1), 3);
        due.numbers(x, 1, 3, -1, 1, 1);
        due.numbers(x, 0, -1, 1, -3, -1);
        x = bench();
        due.is("over(0, 0, 0, 0, 0)", x.over(0, 0, 0, 0, 0), 0);
        due.numbers(x, 0, 2, 0, 0, 0);
    }

    private static void overRefuses(Due due) {
        WholeTurns x = bench();
        due.is("over(4, 5, 9, 3, 0): NULL is ahead of STATE", x.over(4, 5, 9, 3, 0), Due.NULL);
        due.is("over(4, 5, 0, 9, 0)", x.over(4, 5, 0, 9, 0), Due.NULL);
        due.is("status()", x.status(), 1);
        due.is("over(4, 5, 0, 3, 0)", x.over(4, 5, 0, 3, 0), Due.STATE);
        due.is("over(4, 5, 3, 3, 1)", x.over(4, 5, 3, 3, 1), Due.STATE);
        due.is("status() is as it was", x.status(), 1);
        due.is("kind(4) was not made", x.kind(4), Due.NULL);
        due.is("kind(5) was not made", x.kind(5), Due.NULL);
        due.is("over(4, 5, 0, 1, 2)", x.over(4, 5, 0, 1, 2), Due.BAD);
        due.is("over(4, 5, 9, 1, -1): BAD is first", x.over(4, 5, 9, 1, -1), Due.BAD);
        for (int slot : new int[] {-1, 20}) {
            due.is("over(" + slot + ", ..)", x.over(slot, 5, 9, 1, 0), Due.BAD);
            due.is("over(.., " + slot + ", ..)", x.over(4, slot, 9, 1, 0), Due.BAD);
            due.is("over(.., p " + slot + ", ..)", x.over(4, 5, slot, 9, 0), Due.BAD);
            due.is("over(.., q " + slot + ", ..)", x.over(4, 5, 9, slot, 0), Due.BAD);
        }
    }

    static void promise19(Due due) {
        WholeTurns x = bench();
        x.times(5, 0, 1);
        x.times(6, 1, 0);
        x.norm(9);
        due.is("greatest(7, 5, 6, 0)", x.greatest(7, 5, 6, 0), 30);
        due.is("status()", x.status(), 0);
        due.numbers(x, 7, 10, 0, 2, -4);
        due.is("greatest(7, 5, 6, 1)", x.greatest(7, 5, 6, 1), 30);
        due.is("greatest(7, 0, 3, 0) with 0", x.greatest(7, 0, 3, 0), 30);
        due.is("associate(8, 0, 1)", x.associate(8, 0, 1), 2);
        sameNumbers(due, x, 7, 8);
        due.is("greatest(7, 3, 0, 1) of 0", x.greatest(7, 3, 0, 1), 30);
        due.is("associate(8, 0, 0)", x.associate(8, 0, 0), 2);
        sameNumbers(due, x, 7, 8);
        due.is("greatest(0, 0, 2, 0) with a UNIT", x.greatest(0, 0, 2, 0), 1);
        due.numbers(x, 0, 2, 0, 0, 0);
        due.is("greatest(7, 3, 3, 0)", x.greatest(7, 3, 3, 0), Due.STATE);
        due.is("status() is as it was", x.status(), 0);
        due.is("greatest(7, 9, 3, 0)", x.greatest(7, 9, 3, 0), Due.NULL);
        due.is("greatest(7, 3, 9, 0)", x.greatest(7, 3, 9, 0), Due.NULL);
        due.is("status()", x.status(), 1);
        due.is("greatest(7, 0, 1, 2)", x.greatest(7, 0, 1, 2), Due.BAD);
        due.is("greatest(7, 9, 1, -1): BAD is first", x.greatest(7, 9, 1, -1), Due.BAD);
        for (int slot : new int[] {-1, 20}) {
            due.is("greatest(" + slot + ", ..)", x.greatest(slot, 0, 9, 0), Due.BAD);
            due.is("greatest(.., " + slot + ", ..)", x.greatest(7, slot, 9, 0), Due.BAD);
            due.is("greatest(.., .., " + slot + ", ..)", x.greatest(7, 9, slot, 0), Due.BAD);
        }
        greatestDivides(due);
    }

    private static void sameNumbers(Due due, WholeTurns x, int slot, int other) {
        due.numbers(x, slot, x.number(other, 0), x.number(other, 1), x.number(other, 2), x.number(other, 3));
    }

    /** Side 0: p and q are it times something; side 1: something times it. */
    private static void greatestDivides(Due due) {
        WholeTurns x = new WholeTurns();
        Due.put(x, 0, 6, 2, 2, 0);
        Due.put(x, 1, 3, 1, 5, 7);
        Due.put(x, 2, 2, 8, 0, 6);
        x.times(3, 0, 1);
        x.times(4, 0, 2);
        due.is("greatest to side 0", x.greatest(5, 3, 4, 0), 11);
        due.is("over to side 0", x.over(6, 7, 3, 5, 0), 0);
        due.is("over to side 0", x.over(6, 7, 4, 5, 0), 0);
        x.times(3, 1, 0);
        x.times(4, 2, 0);
        due.is("greatest to side 1", x.greatest(5, 3, 4, 1), 11);
        due.is("over to side 1", x.over(6, 7, 3, 5, 1), 0);
        due.is("over to side 1", x.over(6, 7, 4, 5, 1), 0);
        due.is("the other side", x.greatest(5, 3, 4, 0) == 11 ? 1 : 0, 0);
    }

    static void promise20(Due due) {
        WholeTurns x = bench();
        x.norm(9);
        due.is("associate(4, 0, 0)", x.associate(4, 0, 0), 2);
        due.is("status()", x.status(), 0);
        due.numbers(x, 4, 10, 0, 4, 2);
        due.is("associate(4, 0, 1)", x.associate(4, 0, 1), 2);
        due.numbers(x, 4, 10, 2, 0, 4);
        due.is("associate of 0", x.associate(4, 3, 0), 0);
        due.numbers(x, 4, 0, 0, 0, 0);
        due.is("associate(2, 2, 0) of a UNIT", x.associate(2, 2, 0), 4);
        due.numbers(x, 2, 2, 0, 0, 0);
        Due.put(x, 5, -3, 3, 3, -3);
        due.is("associate of a HALF", x.associate(5, 5, 1), 0);
        due.numbers(x, 5, 6, 0, 0, 0);
        due.is("associate(4, 9, 0)", x.associate(4, 9, 0), Due.NULL);
        due.is("status()", x.status(), 1);
        due.is("associate(4, 0, 2)", x.associate(4, 0, 2), Due.BAD);
        due.is("associate(4, 9, -1): BAD is first", x.associate(4, 9, -1), Due.BAD);
        for (int slot : new int[] {-1, 20}) {
            due.is("associate(" + slot + ", ..)", x.associate(slot, 0, 0), Due.BAD);
            due.is("associate(.., " + slot + ", 0)", x.associate(0, slot, 0), Due.BAD);
        }
        associateIsTheGreatest(due);
    }

    /** Of all FOURS of some NORMS. */
    private static void associateIsTheGreatest(Due due) {
        for (int n : new int[] {1, 2, 4, 7, 9}) {
            for (int i = 0; i < new WholeTurns().many(n); i++) {
                for (int side = 0; side < 2; side++) associateOfListed(due, n, i, side);
            }
        }
    }

    private static void associateOfListed(Due due, int n, int which, int side) {
        WholeTurns x = new WholeTurns();
        x.list(0, n, which);
        x.associate(1, 0, side);
        long[] best = null;
        for (int i = 0; i < 24; i++) {
            x.list(2, 1, i);
            x.times(3, side == 0 ? 2 : 0, side == 0 ? 0 : 2);
            long[] now = {x.number(3, 0), x.number(3, 1), x.number(3, 2), x.number(3, 3)};
            if (best == null || Arrays.compare(best, now) < 0) best = now;
        }
        due.numbers(x, 1, best[0], best[1], best[2], best[3]);
    }

    static void promise21(Due due) {
        long[][] rows = {
            {2, 4, 6, 8, 1}, {4, 8, 12, 16, 2}, {2, 2, 2, 2, 2}, {6, 6, 6, 6, 6}, {-2, 2, 6, 10, 2}, {4, 4, 4, 4, 4},
            {4, 4, 4, 0, 2}, {3, 3, 3, 9, 3}, {12, 0, 0, 0, 6}, {0, 0, 0, -63244, 31622}, {60000, 20000, 0, 0, 10000},
            {1, 1, 1, 1, 1}, {2, 2, 0, 0, 1}, {31621, 31621, -31621, 31621, 31621}, {10, 30, 10, 50, 10}};
        for (long[] row : rows) {
            WholeTurns x = Due.with(row[0], row[1], row[2], row[3]);
            due.is("plain of " + row[0] + " " + row[1] + " " + row[2] + " " + row[3], x.plain(1, 0), row[4]);
            due.is("status()", x.status(), 0);
            due.numbers(x, 1, row[0] / row[4], row[1] / row[4], row[2] / row[4], row[3] / row[4]);
            due.is("is PLAIN", x.is(1, 2), 1);
            due.is("plain(0, 0)", x.plain(0, 0), row[4]);
            due.is("plain(0, 0) again", x.plain(0, 0), 1);
        }
        WholeTurns x = bench();
        due.is("plain(4, 9)", x.plain(4, 9), Due.NULL);
        due.is("plain(4, 3)", x.plain(4, 3), Due.STATE);
        due.is("status() is as it was", x.status(), 1);
        due.is("kind(4) was not made", x.kind(4), Due.NULL);
        for (int slot : new int[] {-1, 20}) {
            due.is("plain(" + slot + ", 0)", x.plain(slot, 0), Due.BAD);
            due.is("plain(0, " + slot + ")", x.plain(0, slot), Due.BAD);
        }
    }

    static void promise22(Due due) {
        int[][] primes = {{2, 4, 6, 8, 2, 3, 5}, {6, 2, 2, 0, 11}, {2, 2, 0, 0, 2}, {5, 3, 1, 1, 3, 3}, {1, 1, 3, 5, 3, 3},
            {62001, 3, 5, 7, 41, 83, 282407}, {63245, 23, 5, 263, 999999937}, {6, 6, 0, 2, 19}, {2, 2, 4, 0, 2, 3}};
        for (int[] row : primes) partsOf(due, row);
        greatPart(due);
        WholeTurns x = bench();
        x.norm(9);
        due.is("part(4, 0, 4)", x.part(4, 0, 4), Due.NONE);
        due.is("status() of NONE", x.status(), 0);
        due.is("part(4, 0, -1)", x.part(4, 0, -1), Due.NONE);
        due.is("part(4, 0, MAX)", x.part(4, 0, Integer.MAX_VALUE), Due.NONE);
        due.is("kind(4) was not made", x.kind(4), Due.NULL);
        due.is("part(4, 9, 0)", x.part(4, 9, 0), Due.NULL);
        due.is("part(4, 3, 0) of 0", x.part(4, 3, 0), Due.STATE);
        due.is("part(4, 2, 0) of a UNIT", x.part(4, 2, 0), Due.STATE);
        Due.put(x, 5, 4, 0, 0, 0);
        Due.put(x, 6, 3, 3, 3, 3);
        x.norm(9);
        due.is("part(4, 5, 0) of 2", x.part(4, 5, 0), Due.STATE);
        due.is("part(4, 6, 9) of a HALF", x.part(4, 6, 9), Due.STATE);
        due.is("status() is as it was", x.status(), 1);
        due.is("part(0, 0, 0) onto itself", x.part(0, 0, 0), 4);
        due.is("norm(0)", x.norm(0), 2);
        for (int slot : new int[] {-1, 20}) {
            due.is("part(" + slot + ", 0, 0)", x.part(slot, 0, 0), Due.BAD);
            due.is("part(0, " + slot + ", 0)", x.part(0, slot, 0), Due.BAD);
        }
    }

    /** The parts have the NORMS told, a UNIT is behind them, and all in order make the FOUR. */
    private static void partsOf(Due due, int[] row) {
        WholeTurns x = Due.with(row[0], row[1], row[2], row[3]);
        int count = row.length - 3;
        Due.put(x, 1, 2, 0, 0, 0);
        for (int i = 0; i < count; i++) {
            due.is("part(2, 0, " + i + ")", x.part(2, 0, i), count);
            due.is("norm of part " + i, x.norm(2), i < count - 1 ? row[4 + i] : 1);
            due.is("times", x.times(1, 1, 2) < 0 ? 1 : 0, 0);
            if (i == 0 && row[4] <= 31622) {
                Due.put(x, 3, 2L * row[4], 0, 0, 0);
                due.is("greatest with its NORM", x.greatest(4, 0, 3, 0), row[4]);
                sameNumbers(due, x, 2, 4);
            }
        }
        due.numbers(x, 1, row[0], row[1], row[2], row[3]);
        due.is("no further part", x.part(2, 0, count), Due.NONE);
    }

    /** A prime NORM near the greatest: as a whole number it is divided by with a NORM of some 18 digits. */
    private static void greatPart(Due due) {
        WholeTurns x = new WholeTurns();
        int made = 0;
        for (int k = 1; k < 200 && made < 3; k += 2) {
            if (Due.put(x, 0, 63243, 301, 21, k) != 3) continue;
            made++;
            due.is("part of a great PRIME", x.part(1, 0, 0), 2);
            due.is("norm of its part", x.norm(1), x.norm(0));
            due.is("the UNIT behind", x.part(2, 0, 1), 2);
            due.is("norm of the UNIT", x.norm(2), 1);
            x.times(3, 1, 2);
            sameNumbers(due, x, 3, 0);
        }
        due.is("great PRIMES tried", made, 3);
    }
}
