/** The boundary cases of promises 6 to 14, a test for each: FOURS in SLOTS, their KINDS, and what is asked of them. */
final class FourEdges {
    private static final int MIN = Integer.MIN_VALUE, MAX = Integer.MAX_VALUE;

    private FourEdges() {
    }

    /** An object with these four numbers in a TRAY of longs. */
    private static WholeTurns with(long... items) {
        WholeTurns x = new WholeTurns();
        x.tray(0, 2, items.length);
        for (int i = 0; i < items.length; i++) x.set(0, i, items[i]);
        return x;
    }

    private static String told(long... four) {
        return four[0] + " " + four[1] + " " + four[2] + " " + four[3];
    }

    // ---- promise 6

    static void promise06_slotNumbers(Due due) {
        Bench.span(due, "take(%d, 0, 0)", (x, slot) -> x.take(slot, 0, 0), Bench.BAD, 0, 2, 19, 2);
    }

    static void promise06_trayNumbers(Due due) {
        Bench.span(due, "take(9, %d, 0)", (x, tray) -> x.take(9, tray, 0), Bench.BAD, 0, 2, 7, 2);
    }

    static void promise06_onlyThatSlot(Due due) {
        Bench.of(due, "take(9, 0, 4)", x -> x.take(9, 0, 4)).four(9, 3, 3, 1, 1, 1).answers(3);
    }

    static void promise06_inPlaceOfAnother(Due due) {
        Bench.of(due, "take(0, 1, 0)", x -> x.take(0, 1, 0)).four(0, 3, 2, 2, 0, 0).answers(3);
        Bench.of(due, "take(19, 1, 4)", x -> x.take(19, 1, 4)).four(19, 0, 4, 4, 4, 0).answers(0);
    }

    static void promise06_firstAndLastPlace(Due due) {
        Bench.span(due, "take(9, 0, %d)", (x, i) -> x.take(9, 0, i), Bench.PLACE, 0, 2, 4, 3);
        Bench.span(due, "take(9, 2, %d)", (x, i) -> x.take(9, 2, i), Bench.PLACE, 0, 3, 96, 3);
        Bench.outside(due, "take(9, 2, %d)", (x, i) -> x.take(9, 2, i), Bench.PLACE, 98, 99, 100, MAX - 3, MAX - 2);
    }

    static void promise06_threeItemsAreTooFew(Due due) {
        for (int n = 0; n < 4; n++) {
            WholeTurns x = with(new long[n]);
            due.is("take(0, 0, 0) of " + n + " ITEMS", x.take(0, 0, 0), Due.PLACE);
            due.is("kind(0)", x.kind(0), Due.NULL);
        }
        Bench.outside(due, "take(9, 6, %d) of a TRAY without ITEMS", (x, i) -> x.take(9, 6, i), Bench.PLACE, 0, -4, -1, MAX, MIN);
    }

    static void promise06_fourItemsAreEnough(Due due) {
        WholeTurns x = with(2, 4, 6, 8);
        due.is("take(0, 0, 0) of four ITEMS", x.take(0, 0, 0), 2);
        due.is("take(0, 0, 1) of four ITEMS", x.take(0, 0, 1), Due.PLACE);
    }

    static void promise06_missingTray(Due due) {
        Bench.of(due, "take(9, 5, 0)", x -> x.take(9, 5, 0)).finds(Due.NULL);
    }

    static void promise06_nullAheadOfPlace(Due due) {
        Bench.outside(due, "take(0, 5, %d)", (x, i) -> x.take(0, 5, i), call -> call.finds(Due.NULL), -1, 97, MIN, MAX);
    }

    static void promise06_badNumbersAheadOfNull(Due due) {
        Bench.outside(due, "take(%d, 5, 0)", (x, slot) -> x.take(slot, 5, 0), Bench.BAD, -1, 20);
    }

    static void promise06_badNumbersAheadOfPlace(Due due) {
        Bench.outside(due, "take(%d, 0, -1)", (x, slot) -> x.take(slot, 0, -1), Bench.BAD, -1, 20);
        Bench.outside(due, "take(0, %d, -1)", (x, tray) -> x.take(0, tray, -1), Bench.BAD, -1, 8);
    }

    static void promise06_badNumbersAheadOfFull(Due due) {
        Bench.outside(due, "take(%d, 4, 0)", (x, slot) -> x.take(slot, 4, 0), Bench.BAD, -1, 20);
    }

    static void promise06_placeAheadOfWhatStandsThere(Due due) {
        due.is("take(0, 0, 0) of three ITEMS, odd and even", with(1, 2, 4).take(0, 0, 0), Due.PLACE);
        due.is("take(0, 0, 0) of three ITEMS, too great", with(1L << 40, 0, 0).take(0, 0, 0), Due.PLACE);
        Bench.of(due, "take(0, 3, 1), odd ones behind", x -> x.take(0, 3, 1)).finds(Due.PLACE);
    }

    static void promise06_oddAndEven(Due due) {
        Bench.of(due, "take(0, 3, 0)", x -> x.take(0, 3, 0)).refuses(Due.BAD);
        Bench.of(due, "take(9, 3, 0)", x -> x.take(9, 3, 0)).refuses(Due.BAD);
        for (int odd = 0; odd < 16; odd++) {
            boolean fits = odd == 0 || odd == 15;
            for (int sign = -1; sign < 2; sign += 2) {
                long[] items = new long[4];
                for (int k = 0; k < 4; k++) items[k] = sign * (4 + (odd >> k & 1));
                due.is("take(0, 0, 0) of " + told(items), with(items).take(0, 0, 0), fits ? odd == 0 ? 0 : 1 : Due.BAD);
            }
        }
    }

    static void promise06_badAheadOfFull(Due due) {
        long[][] rows = {{100000, 1, 0, 0}, {100001, 0, 0, 0}, {1, 100001, 1, 2}, {Long.MAX_VALUE, 0, 0, 0}, {Long.MIN_VALUE, 1, 1, 1}};
        for (long[] row : rows) due.is("take(0, 0, 0) of " + told(row), with(row).take(0, 0, 0), Due.BAD);
    }

    static void promise06_greatestNormOfWholeNumbers(Due due) {
        WholeTurns x = with(0, 60000, 20000, 0);
        due.is("take(0, 0, 0) of NORM 1000000000", x.take(0, 0, 0), 0);
        due.is("norm(0)", x.norm(0), 1000000000);
        x.set(0, 0, 2);
        due.is("take(0, 0, 0) of NORM 1000000001", x.take(0, 0, 0), Due.FULL);
        x.set(0, 0, -2);
        due.is("take(0, 0, 0) of NORM 1000000001, below 0", x.take(0, 0, 0), Due.FULL);
        due.numbers(x, 0, 0, 60000, 20000, 0);
    }

    static void promise06_greatestNormOfHalves(Due due) {
        WholeTurns x = with(63245, 1, 43, 261);
        due.is("take(0, 0, 0) of NORM 999999999", x.take(0, 0, 0), 2);
        due.is("norm(0)", x.norm(0), 999999999);
        x.set(0, 1, 3);
        due.is("take(0, 0, 0) of NORM 1000000001", x.take(0, 0, 0), Due.FULL);
        x.set(0, 1, -3);
        due.is("take(0, 0, 0) of NORM 1000000001, below 0", x.take(0, 0, 0), Due.FULL);
        due.numbers(x, 0, 63245, 1, 43, 261);
    }

    static void promise06_greatestNumberAlone(Due due) {
        for (int k = 0; k < 4; k++) {
            for (int sign = -1; sign < 2; sign += 2) {
                long[] items = new long[4];
                items[k] = sign * 63244;
                due.is("take(0, 0, 0) of " + told(items), with(items).take(0, 0, 0), 0);
                items[k] = sign * 63246;
                due.is("take(0, 0, 0) of " + told(items), with(items).take(0, 0, 0), Due.FULL);
            }
        }
    }

    static void promise06_fullChangesNothing(Due due) {
        Bench.of(due, "take(0, 4, 0)", x -> x.take(0, 4, 0)).refuses(Due.FULL);
        Bench.of(due, "take(9, 4, 0)", x -> x.take(9, 4, 0)).refuses(Due.FULL);
    }

    /** Squares, or their sum, that would come to a small number in 64 or in 32 bits. */
    static void promise06_normsThatWrapAround(Due due) {
        long[][] rows = {{1L << 32, 0, 0, 0}, {1L << 33, 0, 2, 0}, {Long.MIN_VALUE, 0, 0, 0}, {0, 0, 0, Long.MIN_VALUE}, {65536, 0, 0, 0},
            {131072, 131072, 131072, 131072}, {1L << 31, 1L << 31, 1L << 31, 1L << 31}, {Long.MAX_VALUE, 1, 1, 1}, {-1, 1, Long.MAX_VALUE, 1},
            {4294967297L, 1, 1, 1}, {1L << 62, 1L << 62, 1L << 62, 1L << 62}, {3037000500L, 0, 0, 0}, {Long.MIN_VALUE + 1, 1, 1, 1}};
        for (long[] row : rows) due.is("take(0, 0, 0) of " + told(row), with(row).take(0, 0, 0), Due.FULL);
    }

    static void promise06_nought(Due due) {
        WholeTurns x = with(0, 0, 0, 0);
        due.is("take(0, 0, 0) of 0", x.take(0, 0, 0), 0);
        due.numbers(x, 0, 0, 0, 0, 0);
    }

    static void promise06_anyLane(Due due) {
        for (int lane = 0; lane < 3; lane++) {
            WholeTurns x = new WholeTurns();
            x.tray(0, lane, 4);
            for (int i = 0; i < 4; i++) x.set(0, i, 127 - 2 * i);
            due.is("take(0, 0, 0) of LANE " + lane, x.take(0, 0, 0), 2);
            due.numbers(x, 0, 127, 125, 123, 121);
        }
    }

    static void promise06_laterItemsDoNotReachIt(Due due) {
        WholeTurns x = with(2, 4, 6, 8);
        x.take(0, 0, 0);
        x.set(0, 0, 100);
        due.numbers(x, 0, 2, 4, 6, 8);
    }

    // ---- promise 7

    static void promise07_slotNumbers(Due due) {
        Bench.outside(due, "clear(%d)", (x, slot) -> x.clear(slot), Bench.BAD, -1, 20, MIN, MAX);
        Bench.of(due, "clear(0)", x -> x.clear(0)).missing(0).refuses(1);
        Bench.of(due, "clear(19)", x -> x.clear(19)).missing(19).refuses(1);
    }

    static void promise07_missing(Due due) {
        Bench.outside(due, "clear(%d)", (x, slot) -> x.clear(slot), call -> call.refuses(0), Bench.MISSING, Bench.MISSING_TOO);
    }

    static void promise07_twice(Due due) {
        WholeTurns x = Bench.full(4);
        due.is("clear(0)", x.clear(0), 1);
        due.is("clear(0) again", x.clear(0), 0);
        due.is("kind(0)", x.kind(0), Due.NULL);
    }

    static void promise07_nought(Due due) {
        Bench.of(due, "clear(4)", x -> x.clear(4)).missing(4).refuses(1);
    }

    static void promise07_thenTakenAgain(Due due) {
        WholeTurns x = Bench.full(4);
        x.clear(0);
        due.is("take(0, 1, 0)", x.take(0, 1, 0), 3);
        due.numbers(x, 0, 2, 2, 0, 0);
    }

    static void promise07_statusOfIts(Due due) {
        WholeTurns x = new WholeTurns();
        x.norm(0);
        x.clear(0);
        due.is("status() behind clear() of a missing one", x.status(), 1);
        x.clear(20);
        due.is("status() behind clear() that is BAD", x.status(), 1);
    }

    // ---- promise 8

    static void promise08_slotNumbers(Due due) {
        Bench.span(due, "number(%d, 3)", (x, slot) -> x.number(slot, 3), Bench.BAD, 0, 8, 19, 6);
    }

    static void promise08_placeNumbers(Due due) {
        Bench.span(due, "number(0, %d)", (x, k) -> x.number(0, k), Bench.BAD, 0, 2, 3, 8);
    }

    static void promise08_missing(Due due) {
        Bench.outside(due, "number(%d, 0)", (x, slot) -> x.number(slot, 0), call -> call.finds(Due.NULL), Bench.MISSING, Bench.MISSING_TOO);
    }

    static void promise08_badAheadOfNull(Due due) {
        Bench.outside(due, "number(9, %d)", (x, k) -> x.number(9, k), Bench.BAD, -1, 4, MIN, MAX);
    }

    static void promise08_greatestAndLeast(Due due) {
        WholeTurns x = with(-63244, 0, 0, 0, 63244, 0, 0, 0);
        x.take(0, 0, 0);
        x.take(1, 0, 4);
        due.is("number(0, 0)", x.number(0, 0), -63244);
        due.is("number(1, 0)", x.number(1, 0), 63244);
    }

    static void promise08_changesNothing(Due due) {
        for (int k = 0; k < 4; k++) {
            int at = k;
            Bench.of(due, "number(0, " + k + ")", x -> x.number(0, at)).answers(2 * k + 2);
        }
    }

    // ---- promise 9

    static void promise09_slotNumbers(Due due) {
        Bench.span(due, "norm(%d)", (x, slot) -> x.norm(slot), Bench.BAD, 0, 30, 19, 15);
    }

    static void promise09_missing(Due due) {
        Bench.outside(due, "norm(%d)", (x, slot) -> x.norm(slot), call -> call.finds(Due.NULL), Bench.MISSING, Bench.MISSING_TOO);
    }

    static void promise09_nought(Due due) {
        Bench.of(due, "norm(4)", x -> x.norm(4)).answers(0);
    }

    static void promise09_one(Due due) {
        Bench.of(due, "norm(1)", x -> x.norm(1)).answers(1);
        Bench.of(due, "norm(2)", x -> x.norm(2)).answers(1);
    }

    static void promise09_greatest(Due due) {
        Bench.of(due, "norm(7)", x -> x.norm(7)).answers(1000000000);
        Bench.of(due, "norm(8)", x -> x.norm(8)).answers(961031021);
    }

    // ---- promise 10

    static void promise10_slotNumbers(Due due) {
        Bench.span(due, "kind(%d)", (x, slot) -> x.kind(slot), Bench.BAD, 0, 2, 19, 2);
    }

    static void promise10_missing(Due due) {
        Bench.outside(due, "kind(%d)", (x, slot) -> x.kind(slot), call -> call.finds(Due.NULL), Bench.MISSING, Bench.MISSING_TOO);
    }

    private static void kinds(Due due, long kind, long[][] fours) {
        for (long[] four : fours) {
            WholeTurns x = Due.with(four[0], four[1], four[2], four[3]);
            due.is("kind(0) of " + told(four), x.kind(0), kind);
            due.is("status()", x.status(), 0);
        }
    }

    static void promise10_noughtIsNoPlain(Due due) {
        kinds(due, 0, new long[][] {{0, 0, 0, 0}});
    }

    static void promise10_normOneIsUnitNotPrime(Due due) {
        kinds(due, 4, new long[][] {{2, 0, 0, 0}, {-2, 0, 0, 0}, {0, 0, 0, -2}, {1, 1, 1, 1}, {-1, -1, -1, -1}, {1, -1, 1, -1}});
    }

    static void promise10_normTwoIsTheLeastPrime(Due due) {
        kinds(due, 3, new long[][] {{2, 2, 0, 0}, {0, 0, 2, -2}, {-2, 0, 0, 2}});
    }

    static void promise10_normThreeHalvesArePrimeNotHalf(Due due) {
        kinds(due, 3, new long[][] {{3, 1, 1, 1}, {-1, 3, -1, 1}, {2, 2, 2, 0}});
    }

    /** 2 times a UNIT each: 2 divides them, into halves too. */
    static void promise10_normFourIsNoPlain(Due due) {
        kinds(due, 0, new long[][] {{4, 0, 0, 0}, {2, 2, 2, 2}, {-2, 2, -2, 2}, {0, 0, 0, -4}});
    }

    static void promise10_dividedIntoHalvesIsNoPlain(Due due) {
        kinds(due, 0, new long[][] {{6, 2, 2, 2}, {2, 6, 10, 14}, {10, 2, -6, 2}});
        kinds(due, 2, new long[][] {{2, 4, 6, 8}, {6, 4, 4, 2}});
    }

    static void promise10_squareOfAPrimeNumber(Due due) {
        kinds(due, 2, new long[][] {{5, 3, 1, 1}, {1, 1, 3, 5}, {4, 4, 2, 0}});
        kinds(due, 0, new long[][] {{6, 0, 0, 0}, {0, 6, 0, 0}});
        kinds(due, 1, new long[][] {{3, 3, 3, 3}, {-3, 3, 3, -3}});
    }

    static void promise10_oddAndPlainIsNoHalf(Due due) {
        kinds(due, 2, new long[][] {{63245, 1, 43, 261}, {7, 1, 1, 3}, {33, 1, 9, 5}});
    }

    static void promise10_oddAndDividedIsHalf(Due due) {
        kinds(due, 1, new long[][] {{9, 3, 3, 3}, {31621, 31621, 31621, 31621}, {-5, 15, 25, 5}, {3, 9, 9, 15}});
    }

    static void promise10_evenAndDividedIsFour(Due due) {
        kinds(due, 0, new long[][] {{6, 6, 6, 0}, {0, 60000, 20000, 0}, {63244, 0, 0, 0}, {4, 4, 0, 0}});
    }

    static void promise10_greatestPrime(Due due) {
        kinds(due, 3, new long[][] {{63245, 5, 23, 263}, {263, 63245, -23, 5}});
    }

    /** 31607 is a prime number, the greatest whose square may be a NORM. */
    static void promise10_squareOfAGreatPrimeNumber(Due due) {
        kinds(due, 0, new long[][] {{63214, 0, 0, 0}});
        kinds(due, 1, new long[][] {{31607, 31607, 31607, 31607}});
    }

    // ---- promise 11

    static void promise11_slotNumbers(Due due) {
        Bench.span(due, "is(%d, 2)", (x, slot) -> x.is(slot, 2), Bench.BAD, 0, 1, 19, 1);
    }

    static void promise11_kindNumbers(Due due) {
        Bench.span(due, "is(1, %d)", (x, kind) -> x.is(1, kind), Bench.BAD, 0, 1, 4, 1);
    }

    static void promise11_missing(Due due) {
        Bench.outside(due, "is(9, %d)", (x, kind) -> x.is(9, kind), call -> call.finds(Due.NULL), 0, 1, 2, 3, 4);
    }

    static void promise11_badAheadOfNull(Due due) {
        Bench.outside(due, "is(9, %d)", (x, kind) -> x.is(9, kind), Bench.BAD, -1, 5, MIN, MAX);
    }

    /** Row: a SLOT of the full bench, then whether it is of KIND 0, 1 and so on. */
    private static final int[][] IS = {{Bench.NOUGHT, 1, 0, 0, 0, 0}, {Bench.FOUR, 1, 0, 0, 0, 0}, {Bench.HALF, 1, 1, 0, 0, 0},
        {Bench.PLAIN, 1, 0, 1, 0, 0}, {Bench.GREAT, 1, 0, 1, 0, 0}, {Bench.PRIME, 1, 0, 1, 1, 0}, {Bench.ONE, 1, 0, 1, 0, 1},
        {Bench.UNIT, 1, 0, 1, 0, 1}};

    static void promise11_itsOwnAndThoseThatItIsToo(Due due) {
        for (int[] row : IS) {
            for (int kind = 0; kind < 5; kind++) {
                int asked = kind;
                Bench.of(due, "is(" + row[0] + ", " + kind + ")", x -> x.is(row[0], asked)).answers(row[1 + kind]);
            }
        }
    }

    // ---- promise 12

    static void promise12_slotNumbers(Due due) {
        Bench.span(due, "as(%d, 2)", (x, slot) -> x.as(slot, 2), Bench.BAD, 0, 30, 19, 15);
    }

    static void promise12_kindNumbers(Due due) {
        Bench.span(due, "as(1, %d)", (x, kind) -> x.as(1, kind), Bench.BAD, 0, 1, 4, 1);
    }

    static void promise12_nullAheadOfKind(Due due) {
        Bench.outside(due, "as(9, %d)", (x, kind) -> x.as(9, kind), call -> call.finds(Due.NULL), 0, 1, 2, 3, 4);
    }

    static void promise12_badAheadOfNull(Due due) {
        Bench.outside(due, "as(9, %d)", (x, kind) -> x.as(9, kind), Bench.BAD, -1, 5, MIN, MAX);
    }

    static void promise12_badAheadOfKind(Due due) {
        Bench.outside(due, "as(4, %d)", (x, kind) -> x.as(4, kind), Bench.BAD, -1, 5, MIN, MAX);
    }

    static void promise12_thatItIsNot(Due due) {
        long[] norms = {30, 1, 1, 3, 0, 9, 4, 1000000000, 961031021};
        for (int[] row : IS) {
            for (int kind = 0; kind < 5; kind++) {
                int asked = kind;
                Bench call = Bench.of(due, "as(" + row[0] + ", " + kind + ")", x -> x.as(row[0], asked));
                if (row[1 + kind] == 1) call.answers(norms[row[0]]);
                else call.finds(Due.KIND);
            }
        }
    }

    static void promise12_noughtAsFour(Due due) {
        Bench.of(due, "as(4, 0)", x -> x.as(4, 0)).answers(0);
    }

    // ---- promise 13

    static void promise13_slotNumbers(Due due) {
        Bench.span(due, "ask(%d, 0)", (x, slot) -> x.ask(slot, 0), Bench.BAD, 0, 30, 19, 15);
    }

    static void promise13_askNumbers(Due due) {
        Bench.span(due, "ask(0, %d)", (x, what) -> x.ask(0, what), Bench.BAD, 0, 30, 2, 40);
    }

    static void promise13_missingEmptiesTheTrace(Due due) {
        for (int what = 0; what < 3; what++) {
            int asked = what;
            Bench.of(due, "ask(9, " + what + ")", x -> x.ask(9, asked)).trace().finds(Due.NULL);
        }
    }

    static void promise13_badLeavesTheTrace(Due due) {
        WholeTurns x = Bench.full(4);
        due.is("ask(-1, 0)", x.ask(-1, 0), Due.BAD);
        due.is("ask(0, 3)", x.ask(0, 3), Due.BAD);
        long[] bodies = {22, 20, 12, 10, Due.NONE};
        for (int i = 0; i < 5; i++) due.is("trace(" + i + ")", x.trace(i), bodies[i]);
    }

    static void promise13_badAheadOfNull(Due due) {
        Bench.outside(due, "ask(9, %d)", (x, what) -> x.ask(9, what), Bench.BAD, -1, 3, MIN, MAX);
    }

    private static void asks(Due due, int slot, int what, long answer, long... bodies) {
        Bench.of(due, "ask(" + slot + ", " + what + ")", x -> x.ask(slot, what)).trace(bodies).answers(answer);
    }

    static void promise13_sizeIsLent(Due due) {
        asks(due, Bench.FOUR, 0, 4, 10);
        asks(due, Bench.HALF, 0, 9, 10);
        asks(due, Bench.PLAIN, 0, 30, 10);
        asks(due, Bench.NOUGHT, 0, 0, 10);
        asks(due, Bench.GREATEST, 0, 1000000000 % 1000003, 10);
    }

    static void promise13_sizeOfAUnit(Due due) {
        asks(due, Bench.ONE, 0, 1, 11);
        asks(due, Bench.UNIT, 0, 1, 11);
    }

    static void promise13_sizeOfAPrime(Due due) {
        asks(due, Bench.PRIME, 0, 5, 12, 10);
    }

    private static void sizeOf(Due due, long want, long... four) {
        due.is("ask(0, 0) of " + told(four), Due.with(four[0], four[1], four[2], four[3]).ask(0, 0), want);
    }

    /** NORMS 1000002, 1000003 (a prime number), 1000004, and twice 1000003. */
    static void promise13_sizeModulo(Due due) {
        sizeOf(due, 1000002, 2000, 0, 2, 2);
        sizeOf(due, 2, 2000, 2, 2, 2);
        sizeOf(due, 1, 2000, 0, 0, 4);
        sizeOf(due, 0, 2828, 0, 18, 46);
    }

    static void promise13_share(Due due) {
        asks(due, Bench.FOUR, 1, 24, 20);
        asks(due, Bench.NOUGHT, 1, 24, 20);
        asks(due, Bench.HALF, 1, 12, 21, 20);
        asks(due, Bench.PLAIN, 1, 54, 22, 20, 10);
    }

    /** SIZE is asked anew, as of a PRIME or of a UNIT, though SHARE's BODY is the one of PLAINS. */
    static void promise13_sizeWithinShare(Due due) {
        asks(due, Bench.PRIME, 1, 29, 22, 20, 12, 10);
        asks(due, Bench.ONE, 1, 5, 23, 22, 20, 11);
        asks(due, Bench.UNIT, 1, 5, 23, 22, 20, 11);
    }

    static void promise13_mark(Due due) {
        asks(due, Bench.FOUR, 2, 4, 30);
        asks(due, Bench.HALF, 2, 12, 30);
        asks(due, Bench.NOUGHT, 2, 0, 30);
    }

    static void promise13_markTwiceButAskedOnce(Due due) {
        asks(due, Bench.PLAIN, 2, 40, 31, 30);
        asks(due, Bench.ONE, 2, 4, 31, 30);
        asks(due, Bench.UNIT, 2, 8, 31, 30);
        asks(due, Bench.PRIME, 2, 13, 32, 31, 30);
    }

    private static void markOf(Due due, long want, long... four) {
        due.is("ask(0, 2) of " + told(four), Due.with(four[0], four[1], four[2], four[3]).ask(0, 2), want);
    }

    static void promise13_markModulo(Due due) {
        markOf(due, 96, 24, 24, 24, 24);
        markOf(due, 1, 98, 0, 0, 0);
        markOf(due, 0, 194, 0, 0, 0);
        markOf(due, 0, 97, 97, -97, -97);
    }

    static void promise13_markOfSumsBelowNought(Due due) {
        markOf(due, 93, -4, 0, 0, 0);
        markOf(due, 1, 0, -96, 0, 0);
        markOf(due, 96, 0, 0, -98, 0);
        markOf(due, 0, 0, 0, 0, -194);
        markOf(due, 0, -97, -97, -97, -97);
        markOf(due, 85, -3, -3, -3, -3);
    }

    static void promise13_emptyAheadOfIt(Due due) {
        WholeTurns x = Bench.full(4);
        x.ask(Bench.UNIT, 1);
        due.is("trace(3) of four BODIES", x.trace(3), 11);
        x.ask(Bench.FOUR, 0);
        due.is("trace(0) of one BODY", x.trace(0), 10);
        for (int i = 1; i < 17; i++) due.is("trace(" + i + ") of one BODY", x.trace(i), Due.NONE);
    }

    // ---- promise 14

    static void promise14_firstAndLast(Due due) {
        long[] bodies = {22, 20, 12, 10};
        for (int i = 0; i < 4; i++) {
            int at = i;
            Bench.of(due, "trace(" + i + ")", x -> x.trace(at)).refuses(bodies[i]);
        }
        Bench.outside(due, "trace(%d)", (x, i) -> x.trace(i), call -> call.refuses(Due.NONE), -1, 4, 15, 16, 17, MIN, MAX);
    }

    static void promise14_longest(Due due) {
        WholeTurns x = Bench.full(4);
        for (int slot : new int[] {0, 1, 2, 3, 4, 5, 6, 7, 8, 19}) {
            for (int what = 0; what < 3; what++) {
                x.ask(slot, what);
                due.is("trace(4) behind ask(" + slot + ", " + what + ")", x.trace(4), Due.NONE);
            }
        }
    }

    static void promise14_empty(Due due) {
        WholeTurns x = new WholeTurns();
        Bench.Numbered trace = (y, i) -> y.trace(i);
        for (int i : new int[] {-1, 0, 15, 16, MIN, MAX}) due.is("trace(" + i + ") of a new object", trace.on(x, i), Due.NONE);
        x.ask(0, 1);
        for (int i : new int[] {-1, 0, 15, 16, MIN, MAX}) due.is("trace(" + i + ") behind NULL", trace.on(x, i), Due.NONE);
        due.is("status() behind trace()", x.status(), 1);
    }

    static void promise14_otherCallsLeaveIt(Due due) {
        WholeTurns x = Bench.full(4);
        x.kind(0);
        x.times(9, 0, 3);
        x.part(9, 0, 1);
        x.clear(3);
        x.tray(0, 0, 1);
        x.as(4, 2);
        due.is("trace(0)", x.trace(0), 22);
        due.is("trace(3)", x.trace(3), 10);
        due.is("trace(4)", x.trace(4), Due.NONE);
    }
}
