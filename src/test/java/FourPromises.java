/** Promises 6 to 14: FOURS in SLOTS, their KINDS, and what is asked of them. */
final class FourPromises {
    private FourPromises() {
    }

    static void promise06(Due due) {
        WholeTurns x = new WholeTurns();
        due.is("take(20, 0, 0)", x.take(20, 0, 0), Due.BAD);
        due.is("take(-1, 0, 0)", x.take(-1, 0, 0), Due.BAD);
        due.is("take(0, 8, 0)", x.take(0, 8, 0), Due.BAD);
        due.is("take(0, -1, 0)", x.take(0, -1, 0), Due.BAD);
        due.is("status()", x.status(), 0);
        due.is("take(0, 0, -1): NULL is ahead of PLACE", x.take(0, 0, -1), Due.NULL);
        x.tray(0, 0, 3);
        due.is("take of three ITEMS", x.take(0, 0, 0), Due.PLACE);
        due.is("status()", x.status(), 2);
        x.tray(0, 0, 5);
        x.set(0, 1, 1);
        x.set(0, 2, 1);
        x.set(0, 3, 1);
        x.set(0, 4, -1);
        due.is("take(0, 0, 1)", x.take(0, 0, 1), 4);
        due.numbers(x, 0, 1, 1, 1, -1);
        due.is("take(0, 0, 2)", x.take(0, 0, 2), Due.PLACE);
        due.is("take(0, 0, -1)", x.take(0, 0, -1), Due.PLACE);
        due.is("take(0, 0, MAX)", x.take(0, 0, Integer.MAX_VALUE), Due.PLACE);
        due.is("take(0, 0, MIN)", x.take(0, 0, Integer.MIN_VALUE), Due.PLACE);
        due.is("take of an even and three odd ones", x.take(0, 0, 0), Due.BAD);
        due.is("status() is as it was", x.status(), 2);
        due.numbers(x, 0, 1, 1, 1, -1);
        due.is("take(19, 0, 1)", x.take(19, 0, 1), 4);
        takeOfMixedOnes(due, x);
        takeOfGreatOnes(due, x);
    }

    private static void takeOfMixedOnes(Due due, WholeTurns x) {
        for (int odd = 1; odd < 15; odd++) {
            long answer = Due.put(x, 0, 4 + (odd & 1), 4 + (odd >> 1 & 1), -4 + (odd >> 2 & 1), 4 + (odd >> 3));
            due.is("take with odd ones " + odd, answer, Due.BAD);
        }
        due.is("three odd ones too great", Due.put(x, 0, 63249, 63249, 63249, 2), Due.BAD);
    }

    private static void takeOfGreatOnes(Due due, WholeTurns x) {
        due.is("NORM 1000000000", Due.put(x, 1, 0, 60000, 20000, 0), 0);
        due.is("norm(1)", x.norm(1), 1000000000);
        due.is("NORM 1000000001", Due.put(x, 1, 2, 60000, 20000, 0), Due.FULL);
        due.is("NORM 1000000003", Due.put(x, 1, 63245, 263, 23, 21), Due.FULL);
        due.is("-63246", Due.put(x, 1, -63246, 0, 0, 0), Due.FULL);
        due.is("four of 31623", Due.put(x, 1, 31623, 31623, 31623, 31623), Due.FULL);
        due.is("four of -31621", Due.put(x, 2, -31621, -31621, -31621, -31621), 1);
        long[] far = {Long.MAX_VALUE, Long.MIN_VALUE + 1, 4294967297L, 1L << 62 | 1};
        for (long number : far) {
            due.is("W " + number, Due.put(x, 1, number, 1, 1, 1), Due.FULL);
            due.is("X " + number, Due.put(x, 1, 1, number, 1, 1), Due.FULL);
            due.is("Y " + number, Due.put(x, 1, 1, 1, number, 1), Due.FULL);
            due.is("Z " + number, Due.put(x, 1, 1, 1, 1, number), Due.FULL);
        }
        due.is("W MIN", Due.put(x, 1, Long.MIN_VALUE, 0, 0, 0), Due.FULL);
        due.is("W 2 to the 32nd", Due.put(x, 1, 1L << 32, 0, 0, 0), Due.FULL);
        due.is("norm(1) is as it was", x.norm(1), 1000000000);
    }

    static void promise07(Due due) {
        WholeTurns x = Due.with(2, 0, 0, 0);
        due.is("status()", x.status(), 1);
        due.is("clear(0)", x.clear(0), 1);
        due.is("clear(0) again", x.clear(0), 0);
        due.is("status(), not of clear()", x.status(), 1);
        due.is("clear(20)", x.clear(20), Due.BAD);
        due.is("clear(-1)", x.clear(-1), Due.BAD);
        due.is("norm(0)", x.norm(0), Due.NULL);
        Due.put(x, 0, 2, 2, 0, 0);
        due.is("norm(0)", x.norm(0), 2);
        due.is("clear(19)", x.clear(19), 0);
        due.is("norm(0) beside what is cleared", x.norm(0), 2);
    }

    static void promise08(Due due) {
        WholeTurns x = Due.with(-3, 5, -7, 63001);
        due.is("number(0, 0)", x.number(0, 0), -3);
        due.is("status()", x.status(), 0);
        due.numbers(x, 0, -3, 5, -7, 63001);
        due.is("number(0, 4)", x.number(0, 4), Due.BAD);
        due.is("number(0, -1)", x.number(0, -1), Due.BAD);
        due.is("number(20, 0)", x.number(20, 0), Due.BAD);
        due.is("number(-1, 0)", x.number(-1, 0), Due.BAD);
        due.is("number(1, 4): BAD is first", x.number(1, 4), Due.BAD);
        due.is("number(1, 0)", x.number(1, 0), Due.NULL);
        due.is("status()", x.status(), 1);
    }

    static void promise09(Due due) {
        WholeTurns x = Due.with(1, -3, 5, -7);
        due.is("norm(0)", x.norm(0), 21);
        due.is("status()", x.status(), 0);
        due.is("norm(20)", x.norm(20), Due.BAD);
        due.is("norm(-1)", x.norm(-1), Due.BAD);
        due.is("norm(1)", x.norm(1), Due.NULL);
        due.is("status()", x.status(), 1);
        due.is("take of 0", Due.put(x, 1, 0, 0, 0, 0), 0);
        due.is("norm of 0", x.norm(1), 0);
        due.is("norm of MAX", Due.put(x, 1, 63245, 263, 1, 1) == 2 ? x.norm(1) : 0, 999999799);
    }

    private static final long[][] TOLD = {
        {0, 0, 0, 0, 0}, {4, 0, 0, 0, 0}, {4, 4, 0, 0, 0}, {6, -6, 0, 12, 0}, {2, 2, 2, -2, 0}, {6, 0, 0, 0, 0},
        {3, 3, 3, -3, 1}, {3, 9, 3, 3, 1}, {-5, 15, 5, 25, 1}, {9, 9, 9, 27, 1},
        {2, 4, 6, 8, 2}, {2, 2, 4, 0, 2}, {1, 1, 3, 5, 2}, {3, 3, 3, 11, 3}, {6, 2, 2, 0, 3}, {6, 6, 0, 2, 3},
        {2, 2, 0, 0, 3}, {0, 0, -2, 2, 3}, {3, 1, 1, 1, 3}, {1, 3, 3, 3, 3}, {4, 2, 2, 2, 3}, {62000, 2, 6, 4, 2},
        {2, 0, 0, 0, 4}, {0, -2, 0, 0, 4}, {1, 1, 1, 1, 4}, {-1, 1, -1, 1, 4}, {0, 0, 0, -2, 4}};

    static void promise10(Due due) {
        WholeTurns x = new WholeTurns();
        for (long[] told : TOLD) {
            String four = told[0] + " " + told[1] + " " + told[2] + " " + told[3];
            due.is("take of " + four, Due.put(x, 3, told[0], told[1], told[2], told[3]), told[4]);
            due.is("kind of " + four, x.kind(3), told[4]);
        }
        due.is("kind(20)", x.kind(20), Due.BAD);
        due.is("kind(-1)", x.kind(-1), Due.BAD);
        due.is("kind(4)", x.kind(4), Due.NULL);
        due.is("status()", x.status(), 1);
        due.is("kind(3)", x.kind(3), 4);
        due.is("status()", x.status(), 0);
        due.is("the greatest prime number that a NORM may be", Due.put(x, 0, 63245, 23, 5, 263), 3);
        due.is("norm(0)", x.norm(0), 999999937);
    }

    /** Row: as what it is told; column: whether it is that, too. */
    private static final int[][] IS = {
        {1, 0, 0, 0, 0}, {1, 1, 0, 0, 0}, {1, 0, 1, 0, 0}, {1, 0, 1, 1, 0}, {1, 0, 1, 0, 1}};
    private static final long[][] OF_KIND = {
        {6, 0, 0, 0}, {3, 3, 3, -3}, {1, 1, 3, 5}, {3, 1, 1, 1}, {1, 1, 1, 1}};

    static void promise11(Due due) {
        for (int told = 0; told < 5; told++) {
            long[] four = OF_KIND[told];
            WholeTurns x = Due.with(four[0], four[1], four[2], four[3]);
            due.is("kind(0)", x.kind(0), told);
            for (int kind = 0; kind < 5; kind++) due.is("is(0, " + kind + ") of " + told, x.is(0, kind), IS[told][kind]);
            x.norm(5);
            due.is("is(0, 0)", x.is(0, 0), 1);
            due.is("status()", x.status(), 0);
            due.is("is(0, 5)", x.is(0, 5), Due.BAD);
            due.is("is(0, -1)", x.is(0, -1), Due.BAD);
            due.is("is(20, 0)", x.is(20, 0), Due.BAD);
            due.is("is(-1, 0)", x.is(-1, 0), Due.BAD);
            due.is("is(1, 5): BAD is first", x.is(1, 5), Due.BAD);
            due.is("is(1, 0)", x.is(1, 0), Due.NULL);
            due.is("status()", x.status(), 1);
        }
    }

    static void promise12(Due due) {
        for (int told = 0; told < 5; told++) {
            long[] four = OF_KIND[told];
            WholeTurns x = Due.with(four[0], four[1], four[2], four[3]);
            for (int kind = 0; kind < 5; kind++) {
                boolean so = IS[told][kind] == 1;
                due.is("as(0, " + kind + ") of " + told, x.as(0, kind), so ? x.norm(0) : Due.KIND);
                x.as(0, kind);
                due.is("status()", x.status(), so ? 0 : 3);
            }
            due.is("as(0, 5)", x.as(0, 5), Due.BAD);
            due.is("as(0, -1)", x.as(0, -1), Due.BAD);
            due.is("as(20, 0)", x.as(20, 0), Due.BAD);
            due.is("as(-1, 0)", x.as(-1, 0), Due.BAD);
            due.is("as(1, 4): NULL is ahead of KIND", x.as(1, 4), Due.NULL);
            due.is("status()", x.status(), 1);
        }
    }

    /** Rows: a FOUR, then SIZE, SHARE and MARK of it. */
    private static final long[][] ASKED = {
        {0, 0, 0, 0, 0, 24, 0}, {-10, 0, 0, 0, 25, 24, 87}, {60000, 0, 0, 20000, 997003, 24, 72},
        {3, 3, 3, 3, 9, 12, 12}, {-3, -3, -3, -3, 9, 12, 85}, {4, 2, 6, 0, 14, 38, 24}, {-4, -2, -6, 0, 14, 38, 170},
        {2, 2, 0, 0, 4, 28, 9}, {-2, -2, 0, 0, 4, 28, 187}, {3, 1, 1, 1, 5, 29, 13}, {1, 1, 1, 1, 1, 5, 8},
        {-2, 0, 0, 0, 1, 5, 190}, {97, 97, 97, 97, 9409, 12, 0}};
    /** Of each KIND and ask the BODIES, in time. */
    private static final int[][][] BODIES = {
        {{10}, {20}, {30}}, {{10}, {21, 20}, {30}}, {{10}, {22, 20, 10}, {31, 30}},
        {{12, 10}, {22, 20, 12, 10}, {32, 31, 30}}, {{11}, {23, 22, 20, 11}, {31, 30}}};

    static void promise13(Due due) {
        for (long[] row : ASKED) {
            WholeTurns x = Due.with(row[0], row[1], row[2], row[3]);
            for (int what = 0; what < 3; what++) {
                String call = "ask(0, " + what + ") of " + row[0] + " " + row[1] + " " + row[2] + " " + row[3];
                due.is(call, x.ask(0, what), row[4 + what]);
                due.is("status()", x.status(), 0);
                int[] bodies = BODIES[x.kind(0)][what];
                for (int i = 0; i < 17; i++) due.is("trace(" + i + ") of " + call, x.trace(i), i < bodies.length ? bodies[i] : Due.NONE);
            }
        }
        WholeTurns x = Due.with(1, 1, 1, 1);
        x.ask(0, 1);
        due.is("ask(0, 3)", x.ask(0, 3), Due.BAD);
        due.is("ask(0, -1)", x.ask(0, -1), Due.BAD);
        due.is("ask(20, 0)", x.ask(20, 0), Due.BAD);
        due.is("ask(-1, 0)", x.ask(-1, 0), Due.BAD);
        due.is("trace(0) after BAD", x.trace(0), 23);
        due.is("ask(1, 3): BAD is first", x.ask(1, 3), Due.BAD);
        due.is("trace(3) after BAD", x.trace(3), 11);
        due.is("ask(1, 0)", x.ask(1, 0), Due.NULL);
        due.is("status()", x.status(), 1);
        due.is("trace(0) after NULL", x.trace(0), Due.NONE);
    }

    static void promise14(Due due) {
        WholeTurns x = Due.with(3, 1, 1, 1);
        due.is("trace(0) ahead of all asks", x.trace(0), Due.NONE);
        x.ask(0, 1);
        x.norm(5);
        due.is("trace(0)", x.trace(0), 22);
        due.is("trace(1)", x.trace(1), 20);
        due.is("trace(2)", x.trace(2), 12);
        due.is("trace(3)", x.trace(3), 10);
        due.is("trace(4)", x.trace(4), Due.NONE);
        due.is("trace(15)", x.trace(15), Due.NONE);
        due.is("trace(16)", x.trace(16), Due.NONE);
        due.is("trace(-1)", x.trace(-1), Due.NONE);
        due.is("trace(MAX)", x.trace(Integer.MAX_VALUE), Due.NONE);
        due.is("trace(MIN)", x.trace(Integer.MIN_VALUE), Due.NONE);
        due.is("status(), not of trace()", x.status(), 1);
        x.ask(0, 0);
        due.is("trace(2) of a shorter one", x.trace(2), Due.NONE);
        x.clear(0);
        due.is("trace(0) is left by others", x.trace(0), 12);
    }
}
