/** Promises 27 to 34: turns, and status. */
final class TurnPromises {
    private TurnPromises() {
    }

    private static void entry(Due due, WholeTurns x, int row, int column, long upper, long lower) {
        due.is("table(0, " + row + ", " + column + ", 0)", x.table(0, row, column, 0), upper);
        due.is("table(0, " + row + ", " + column + ", 1)", x.table(0, row, column, 1), lower);
    }

    private static void wholeTable(Due due, WholeTurns x, long[] uppers, long[] lowers) {
        for (int row = 0; row < 3; row++) {
            for (int column = 0; column < 3; column++) {
                int at = 3 * row + column;
                entry(due, x, row, column, uppers[at], lowers[at]);
            }
        }
    }

    static void promise27(Due due) {
        WholeTurns x = Due.with(2, 4, 6, 8);
        wholeTable(due, x, new long[] {-2, 2, 11, 2, -1, 2, 1, 14, 2}, new long[] {3, 15, 15, 3, 3, 3, 3, 15, 15});
        due.is("status()", x.status(), 0);
        x = Due.with(1, 1, 1, 1);
        wholeTable(due, x, new long[] {0, 0, 1, 1, 0, 0, 0, 1, 0}, new long[] {1, 1, 1, 1, 1, 1, 1, 1, 1});
        x = Due.with(2, 0, 0, 2);
        wholeTable(due, x, new long[] {0, -1, 0, 1, 0, 0, 0, 0, 1}, new long[] {1, 1, 1, 1, 1, 1, 1, 1, 1});
        x = Due.with(-4, 2, 0, 0);
        wholeTable(due, x, new long[] {1, 0, 0, 0, 3, 4, 0, -4, 3}, new long[] {1, 1, 1, 1, 5, 5, 1, 5, 5});
        x = Due.with(0, 60000, 20000, 0);
        wholeTable(due, x, new long[] {4, 3, 0, 3, -4, 0, 0, 0, -1}, new long[] {5, 5, 1, 5, 5, 1, 1, 1, 1});
        Due.put(x, 1, 0, 0, 0, 0);
        due.is("table(2, ..)", x.table(2, 0, 0, 0), Due.NULL);
        due.is("table(1, ..) of 0", x.table(1, 0, 0, 0), Due.STATE);
        due.is("status() is as it was", x.status(), 1);
        for (int number : new int[] {-1, 3, Integer.MAX_VALUE}) {
            due.is("row " + number, x.table(2, number, 0, 0), Due.BAD);
            due.is("column " + number, x.table(2, 0, number, 0), Due.BAD);
        }
        due.is("what 2", x.table(2, 0, 0, 2), Due.BAD);
        due.is("what -1", x.table(2, 0, 0, -1), Due.BAD);
        due.is("p 20", x.table(20, 0, 0, 0), Due.BAD);
        due.is("p -1", x.table(-1, 0, 0, 0), Due.BAD);
    }

    static void promise28(Due due) {
        WholeTurns x = Due.with(2, 4, 6, 8);
        due.is("turn(0, 1, 2, 3, 0, 0)", x.turn(0, 1, 2, 3, 0, 0), 9);
        due.is("turn(0, 1, 2, 3, 0, 1)", x.turn(0, 1, 2, 3, 0, 1), 5);
        due.is("status()", x.status(), 0);
        due.is("turn(0, 1, 2, 3, 1, 0)", x.turn(0, 1, 2, 3, 1, 0), 2);
        due.is("turn(0, 1, 2, 3, 1, 1)", x.turn(0, 1, 2, 3, 1, 1), 1);
        due.is("turn(0, 1, 2, 3, 2, 0)", x.turn(0, 1, 2, 3, 2, 0), 13);
        due.is("turn(0, 1, 2, 3, 2, 1)", x.turn(0, 1, 2, 3, 2, 1), 5);
        due.is("turn(0, 0, 0, 0, 2, 0)", x.turn(0, 0, 0, 0, 2, 0), 0);
        due.is("turn(0, 0, 0, 0, 2, 1)", x.turn(0, 0, 0, 0, 2, 1), 1);
        due.is("turn(0, 1000, -1000, 1000, 0, 0)", x.turn(0, 1000, -1000, 1000, 0, 0), -200);
        due.is("turn(0, 1000, -1000, 1000, 0, 1)", x.turn(0, 1000, -1000, 1000, 0, 1), 3);
        x = Due.with(62001, 3, 5, 7);
        due.is("a great one, upper", x.turn(0, 1000, 1000, 1000, 0, 0), 960969001000L);
        due.is("a great one, lower", x.turn(0, 1000, 1000, 1000, 0, 1), 961031021L);
        Due.put(x, 1, 0, 0, 0, 0);
        due.is("turn(2, ..)", x.turn(2, 1, 1, 1, 0, 0), Due.NULL);
        due.is("turn(1, ..) of 0", x.turn(1, 1, 1, 1, 0, 0), Due.STATE);
        due.is("status() is as it was", x.status(), 1);
        for (int number : new int[] {-1001, 1001, Integer.MAX_VALUE, Integer.MIN_VALUE}) {
            due.is("x " + number, x.turn(2, number, 1, 1, 0, 0), Due.BAD);
            due.is("y " + number, x.turn(2, 1, number, 1, 0, 0), Due.BAD);
            due.is("z " + number, x.turn(2, 1, 1, number, 0, 0), Due.BAD);
        }
        due.is("k 3", x.turn(2, 1, 1, 1, 3, 0), Due.BAD);
        due.is("k -1", x.turn(2, 1, 1, 1, -1, 0), Due.BAD);
        due.is("what 2", x.turn(2, 1, 1, 1, 0, 2), Due.BAD);
        due.is("what -1", x.turn(2, 1, 1, 1, 0, -1), Due.BAD);
        due.is("p 20", x.turn(20, 1, 1, 1, 0, 0), Due.BAD);
        due.is("p -1", x.turn(-1, 1, 1, 1, 0, 0), Due.BAD);
    }

    static void promise29(Due due) {
        long[][] rows = {
            {2, 0, 0, 0, 1}, {-6, 0, 0, 0, 1}, {0, 2, 0, 0, 2}, {0, 6, -2, 8, 2}, {1, 1, 1, 1, 3}, {-1, 1, -1, 1, 3},
            {3, 3, 3, -3, 3}, {2, 2, 0, 0, 4}, {-2, 0, 0, 2, 4}, {6, 4, 4, 2, 4}, {3, 1, 1, 1, 6}, {-3, 1, -1, 1, 6},
            {6, 2, 2, 2, 6}, {2, 4, 6, 8, Due.NONE}, {4, 2, 0, 0, Due.NONE}, {2, 4, 0, 0, Due.NONE}, {62001, 3, 5, 7, Due.NONE},
            {2, 6, 0, 0, Due.NONE}, {31620, 31620, 0, 0, 4}, {1, 3, 1, 1, Due.NONE}};
        for (long[] row : rows) {
            WholeTurns x = Due.with(row[0], row[1], row[2], row[3]);
            due.is("order of " + row[0] + " " + row[1] + " " + row[2] + " " + row[3], x.order(0), row[4]);
            due.is("status()", x.status(), 0);
        }
        WholeTurns x = Due.with(0, 0, 0, 0);
        due.is("order(1)", x.order(1), Due.NULL);
        due.is("order(0) of 0", x.order(0), Due.STATE);
        due.is("status() is as it was", x.status(), 1);
        due.is("order(20)", x.order(20), Due.BAD);
        due.is("order(-1)", x.order(-1), Due.BAD);
    }

    static void promise30(Due due) {
        long[][] rows = {
            {2, 4, 6, 8, 2, 3, 4}, {2, -4, 6, 8, 2, -3, -4}, {0, 0, -6, 0, 0, 1, 0},
            {3, 3, 9, -3, 1, 3, -1}, {4, 0, -4, 6, 0, 2, -3}, {4, 0, 0, -10, 0, 0, 1}, {62001, -3, 5, 7, 3, -5, -7},
            {0, 60000, 20000, 0, 3, 1, 0}, {2, -2, 0, -4, 1, 0, 2}};
        for (long[] row : rows) {
            WholeTurns x = Due.with(row[0], row[1], row[2], row[3]);
            for (int k = 0; k < 3; k++) due.is("axis(0, " + k + ") of " + row[0] + " " + row[1] + " " + row[2] + " " + row[3], x.axis(0, k), row[4 + k]);
            due.is("status()", x.status(), 0);
        }
        WholeTurns x = Due.with(-6, 0, 0, 0);
        for (int k = 0; k < 3; k++) due.is("axis(0, " + k + ") of -3", x.axis(0, k), Due.NONE);
        due.is("status() of NONE", x.status(), 0);
        Due.put(x, 1, 0, 0, 0, 0);
        due.is("axis(2, 0)", x.axis(2, 0), Due.NULL);
        due.is("axis(1, 0) of 0", x.axis(1, 0), Due.STATE);
        due.is("status() is as it was", x.status(), 1);
        due.is("axis(2, 3)", x.axis(2, 3), Due.BAD);
        due.is("axis(2, -1)", x.axis(2, -1), Due.BAD);
        due.is("axis(20, 0)", x.axis(20, 0), Due.BAD);
        due.is("axis(-1, 0)", x.axis(-1, 0), Due.BAD);
    }

    static void promise31(Due due) {
        long[][] rows = {
            {2, 4, 6, 8, 2, 4, 6, 8, 1}, {2, 4, 6, 8, -2, -4, -6, -8, 1}, {2, 4, 6, 8, 6, 12, 18, 24, 1}, {2, 4, 6, 8, 2, -4, -6, -8, 0},
            {1, 1, 1, 1, 2, 2, 2, 2, 1}, {3, 3, 3, 3, -2, -2, -2, -2, 1}, {2, 0, 0, 0, 0, 2, 0, 0, 0}, {0, 2, 0, 0, 0, 0, 2, 0, 0},
            {0, 0, 2, 0, 0, 0, 0, 2, 0}, {2, 4, 6, 8, 2, 4, 6, 10, 0}, {2, 4, 6, 8, 2, 4, 8, 8, 0}, {2, 4, 6, 8, 2, 2, 6, 8, 0},
            {2, 4, 6, 8, 4, 4, 6, 8, 0}, {2, 0, 0, 0, 2, 2, 0, 0, 0}, {0, 60000, 20000, 0, 0, -6, -2, 0, 1}, {0, 2, 0, 0, 0, 2, 2, 0, 0}};
        for (long[] row : rows) {
            WholeTurns x = Due.with(row[0], row[1], row[2], row[3]);
            Due.put(x, 1, row[4], row[5], row[6], row[7]);
            due.is("alike(0, 1)", x.alike(0, 1), row[8]);
            due.is("status()", x.status(), 0);
            due.is("alike(1, 0)", x.alike(1, 0), row[8]);
            due.is("alike(0, 0)", x.alike(0, 0), 1);
        }
        WholeTurns x = Due.with(2, 0, 0, 0);
        Due.put(x, 1, 0, 0, 0, 0);
        due.is("alike(1, 2): NULL is ahead of STATE", x.alike(1, 2), Due.NULL);
        due.is("alike(2, 1)", x.alike(2, 1), Due.NULL);
        due.is("alike(0, 1)", x.alike(0, 1), Due.STATE);
        due.is("alike(1, 0)", x.alike(1, 0), Due.STATE);
        due.is("alike(1, 1)", x.alike(1, 1), Due.STATE);
        due.is("status() is as it was", x.status(), 1);
        for (int slot : new int[] {-1, 20}) {
            due.is("alike(" + slot + ", 2)", x.alike(slot, 2), Due.BAD);
            due.is("alike(2, " + slot + ")", x.alike(2, slot), Due.BAD);
        }
    }

    static void promise32(Due due) {
        long[][] rows = {
            {2, 0, 0, 0, 1}, {6, 0, 0, 0, 1}, {2, 2, 0, 0, 1}, {2, 2, 2, 2, 1}, {4, 4, 4, 0, 3}, {2, 4, 6, 8, 15}, {6, 12, 18, 24, 15},
            {3, 1, 1, 1, 3}, {9, 3, 3, 3, 3}, {1, 1, 3, 5, 9}, {62001, 3, 5, 7, 961031021}, {0, 60000, 20000, 0, 5}, {4, 2, 6, 0, 7},
            {8, 4, 12, 0, 7}};
        for (long[] row : rows) {
            WholeTurns x = Due.with(row[0], row[1], row[2], row[3]);
            due.is("index of " + row[0] + " " + row[1] + " " + row[2] + " " + row[3], x.index(0), row[4]);
            due.is("status()", x.status(), 0);
        }
        WholeTurns x = Due.with(0, 0, 0, 0);
        due.is("index(1)", x.index(1), Due.NULL);
        due.is("index(0) of 0", x.index(0), Due.STATE);
        due.is("status() is as it was", x.status(), 1);
        due.is("index(20)", x.index(20), Due.BAD);
        due.is("index(-1)", x.index(-1), Due.BAD);
    }

    static void promise33(Due due) {
        cellIs(due, new long[] {2, 0, 0, 0}, new long[] {1, 0, 1, 0, 0, 1});
        cellIs(due, new long[] {2, 2, 0, 0}, new long[] {1, 0, 1, 0, 0, 1});
        cellIs(due, new long[] {3, 1, 1, 1}, new long[] {3, 2, 1, 2, 0, 1});
        cellIs(due, new long[] {4, 2, 0, 0}, new long[] {1, 0, 5, 0, 2, 1});
        cellIs(due, new long[] {4, 0, 2, 0}, new long[] {5, 0, 1, 3, 0, 1});
        cellIs(due, new long[] {4, 0, 0, 2}, new long[] {5, 2, 1, 0, 0, 1});
        cellIs(due, new long[] {12, 4, 4, 0}, new long[] {11, 1, 1, 8, 0, 1});
        WholeTurns x = Due.with(0, 0, 0, 0);
        Due.put(x, 2, 34, 6, 0, 2);
        due.is("index(2)", x.index(2), 299);
        due.is("a c f at INDEX 299", x.cell(2, 0) * x.cell(2, 2) * x.cell(2, 5), 299);
        Due.put(x, 3, 34, 4, 4, 4);
        due.is("index(3)", x.index(3), 301);
        x.norm(9);
        due.is("cell(3, 0) at INDEX 301", x.cell(3, 0), Due.FULL);
        due.is("cell(0, 0) of 0", x.cell(0, 0), Due.STATE);
        due.is("status() is as it was", x.status(), 1);
        due.is("cell(2, 0)", x.cell(2, 0) < 0 ? 1 : 0, 0);
        due.is("status()", x.status(), 0);
        due.is("cell(9, 0)", x.cell(9, 0), Due.NULL);
        due.is("cell(9, 6)", x.cell(9, 6), Due.BAD);
        due.is("cell(9, -1)", x.cell(9, -1), Due.BAD);
        due.is("cell(20, 0)", x.cell(20, 0), Due.BAD);
        due.is("cell(-1, 0)", x.cell(-1, 0), Due.BAD);
        cellsSpan(due);
    }

    private static void cellIs(Due due, long[] four, long[] cell) {
        WholeTurns x = Due.with(four[0], four[1], four[2], four[3]);
        for (int k = 0; k < 6; k++) due.is("cell(0, " + k + ") of " + four[0] + " " + four[1] + " " + four[2] + " " + four[3], x.cell(0, k), cell[k]);
    }

    /** In a box: a point is COMMON if, and only if, it is a sum of whole multiples of the three. */
    private static void cellsSpan(Due due) {
        long[][] some = {{3, 1, 1, 1}, {2, 4, 6, 8}, {5, 3, 1, 1}, {-7, 1, 3, 5}, {6, 2, -2, 0}, {12, 4, 6, 2}, {9, 9, 3, 3}};
        for (long[] four : some) {
            WholeTurns x = Due.with(four[0], four[1], four[2], four[3]);
            long[] cell = new long[6];
            for (int k = 0; k < 6; k++) cell[k] = x.cell(0, k);
            due.is("a c f", cell[0] * cell[2] * cell[5], x.index(0));
            due.holds("0 <= b < a, 0 <= d < a, 0 <= e < c", cell[1] >= 0 && cell[1] < cell[0] && cell[3] >= 0 && cell[3] < cell[0] && cell[4] >= 0 && cell[4] < cell[2]);
            Due.put(x, 1, four[0], -four[1], -four[2], -four[3]);
            box(due, x, cell);
        }
    }

    /** A point is COMMON if it has whole numbers when it is turned back. */
    private static void box(Due due, WholeTurns x, long[] cell) {
        int calls = 0;
        WholeTurns now = x;
        for (int i = -3; i <= 3; i++) {
            for (int j = -3; j <= 3; j++) {
                for (int k = 0; k <= 3; k++) {
                    if (calls > 400) {
                        now = again(x);
                        calls = 0;
                    }
                    calls += 3;
                    boolean common = now.turn(1, i, j, k, 0, 1) == 1 && now.turn(1, i, j, k, 1, 1) == 1 && now.turn(1, i, j, k, 2, 1) == 1;
                    due.holds(i + " " + j + " " + k + " is told by the cell", common == isSum(cell, i, j, k));
                }
            }
        }
    }

    private static WholeTurns again(WholeTurns x) {
        WholeTurns fresh = new WholeTurns();
        Due.put(fresh, 1, x.number(1, 0), x.number(1, 1), x.number(1, 2), x.number(1, 3));
        return fresh;
    }

    private static boolean isSum(long[] cell, long i, long j, long k) {
        if (k % cell[5] != 0) return false;
        long third = k / cell[5];
        long leftJ = j - third * cell[4];
        if (leftJ % cell[2] != 0) return false;
        long second = leftJ / cell[2];
        return (i - third * cell[3] - second * cell[1]) % cell[0] == 0;
    }

    static void promise34(Due due) {
        WholeTurns x = new WholeTurns();
        due.is("status() of none", x.status(), 0);
        x.drop(0);
        due.is("NULL", x.status(), 1);
        due.is("status() is not told of itself", x.status(), 1);
        x.tray(0, 2, 4);
        due.is("none", x.status(), 0);
        x.set(0, 4, 0);
        due.is("PLACE", x.status(), 2);
        x.take(0, 0, 0);
        x.as(0, 4);
        due.is("KIND", x.status(), 3);
        x.tray(0, 0, -1);
        due.is("SIZE", x.status(), 4);
        x.tray(1, 1, 4);
        x.copy(0, 0, 1, 0, 1);
        due.is("STORE", x.status(), 5);
        x.clear(5);
        x.clear(-1);
        x.trace(0);
        x.many(5);
        x.list(6, 5, 0);
        x.squares(5);
        x.three(5);
        due.is("calls that do not count", x.status(), 5);
        x.norm(20);
        x.tray(0, 5, 0);
        due.is("BAD", x.status(), 5);
        x.order(0);
        x.plain(1, 0);
        due.is("STATE", x.status(), 5);
        x.set(0, 0, 60000);
        x.set(0, 1, 20000);
        x.take(1, 0, 0);
        x.as(0, 4);
        x.sum(2, 1, 1);
        x.times(2, 1, 1);
        due.is("FULL", x.status(), 3);
        everyCallCounts(due);
    }

    /** After each call that has an answer it is 0, whatever was found ahead. */
    private static void everyCallCounts(Due due) {
        for (int call = 0; call < 26; call++) {
            WholeTurns x = Due.with(6, 2, 2, 0);
            due.is("status() ahead of call " + call, x.status(), 1);
            long answer = answerOf(x, call);
            due.holds("call " + call + " has an answer", answer >= -1000);
            due.is("status() after call " + call, x.status(), 0);
        }
    }

    private static long answerOf(WholeTurns x, int call) {
        switch (call) {
            case 0: return x.tray(0, 0, 0);
            case 1: return x.set(7, 0, 1);
            case 2: return x.copy(7, 0, 7, 1, 2);
            case 3: return x.drop(7);
            case 4: return x.take(1, 7, 0);
            case 5: return x.number(0, 0);
            case 6: return x.norm(0);
            case 7: return x.kind(0);
            case 8: return x.is(0, 1);
            case 9: return x.as(0, 0);
            case 10: return x.ask(0, 0);
            case 11: return x.ask(0, 1);
            case 12: return x.ask(0, 2);
            case 13: return x.times(1, 0, 0);
            case 14: return x.sum(1, 0, 0);
            case 15: return x.back(1, 0);
            case 16: return x.over(1, 2, 0, 0, 0);
            case 17: return x.greatest(1, 0, 0, 0);
            case 18: return x.associate(1, 0, 0);
            case 19: return x.plain(1, 0);
            case 20: return x.part(1, 0, 0);
            case 21: return x.table(0, 0, 0, 0);
            case 22: return x.turn(0, 1, 1, 1, 0, 0);
            case 23: return x.axis(0, 0);
            case 24: return x.alike(0, 0);
            default: return x.index(0) + x.cell(0, 0);
        }
    }
}
