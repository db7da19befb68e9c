/** The boundary cases of promises 1 to 5, a test for each: a new object, and its TRAYS. */
final class TrayEdges {
    private static final int MIN = Integer.MIN_VALUE, MAX = Integer.MAX_VALUE;

    private TrayEdges() {
    }

    // ---- promise 1

    static void promise01_noFours(Due due) {
        WholeTurns x = new WholeTurns();
        for (int slot = 0; slot < 20; slot++) due.is("kind(" + slot + ") of a new object", x.kind(slot), Due.NULL);
        for (int slot = 0; slot < 20; slot++) due.is("clear(" + slot + ") of a new object", x.clear(slot), 0);
    }

    static void promise01_noTrays(Due due) {
        WholeTurns x = new WholeTurns();
        for (int tray = 0; tray < 8; tray++) due.is("take(0, " + tray + ", 0) of a new object", x.take(0, tray, 0), Due.NULL);
        for (int tray = 0; tray < 8; tray++) due.is("drop(" + tray + ") of a new object", x.drop(tray), Due.NULL);
    }

    static void promise01_noTrace(Due due) {
        WholeTurns x = new WholeTurns();
        for (int i = 0; i < 17; i++) due.is("trace(" + i + ") of a new object", x.trace(i), Due.NONE);
    }

    static void promise01_noFinding(Due due) {
        due.is("status() of a new object", new WholeTurns().status(), 0);
    }

    static void promise01_objectsApart(Due due) {
        WholeTurns x = Bench.full(4), y = new WholeTurns();
        due.is("kind(0) beside a full object", y.kind(0), Due.NULL);
        due.is("drop(0) beside a full object", y.drop(0), Due.NULL);
        due.is("trace(0) beside a full object", y.trace(0), Due.NONE);
        due.is("status() of the full one", x.status(), 4);
        due.is("kind(0) of the full one", x.kind(0), 2);
    }

    // ---- promise 2

    static void promise02_trayNumbers(Due due) {
        Bench.span(due, "tray(%d, 2, 3)", (x, tray) -> x.tray(tray, 2, 3), Bench.BAD, 0, 3, 7, 3);
    }

    static void promise02_laneNumbers(Due due) {
        Bench.span(due, "tray(0, %d, 3)", (x, lane) -> x.tray(0, lane, 3), Bench.BAD, 0, 3, 2, 3);
    }

    static void promise02_noItems(Due due) {
        WholeTurns x = new WholeTurns();
        due.is("tray(0, 2, 0)", x.tray(0, 2, 0), 0);
        due.is("status() of a TRAY without ITEMS", x.status(), 0);
        due.is("set(0, 0, 1)", x.set(0, 0, 1), Due.PLACE);
        due.is("drop(0)", x.drop(0), 0);
    }

    static void promise02_oneItem(Due due) {
        WholeTurns x = new WholeTurns();
        due.is("tray(0, 2, 1)", x.tray(0, 2, 1), 1);
        due.is("set(0, 0, 9)", x.set(0, 0, 9), 9);
        due.is("set(0, 1, 9)", x.set(0, 1, 9), Due.PLACE);
    }

    static void promise02_hundredItems(Due due) {
        for (int lane = 0; lane < 3; lane++) {
            WholeTurns x = new WholeTurns();
            due.is("tray(7, " + lane + ", 100)", x.tray(7, lane, 100), 100);
            due.is("set(7, 99, 9)", x.set(7, 99, 9), 9);
            due.is("set(7, 100, 9)", x.set(7, 100, 9), Due.PLACE);
            due.is("drop(7)", x.drop(7), 100);
        }
    }

    static void promise02_moreThanAHundred(Due due) {
        Bench.outside(due, "tray(1, 1, %d)", (x, n) -> x.tray(1, 1, n), Bench.BAD, 101, 102, MAX);
        Bench.outside(due, "tray(5, 1, %d) of a missing one", (x, n) -> x.tray(5, 1, n), Bench.BAD, 101, MAX);
    }

    static void promise02_fewerThanNone(Due due) {
        Bench.outside(due, "tray(1, 1, %d)", (x, n) -> x.tray(1, 1, n), call -> call.finds(Due.SIZE), -1, -2, MIN);
        Bench.outside(due, "tray(5, 1, %d) of a missing one", (x, n) -> x.tray(5, 1, n), call -> call.finds(Due.SIZE), -1, MIN);
    }

    static void promise02_badTrayAheadOfSize(Due due) {
        Bench.outside(due, "tray(%d, 1, -1)", (x, tray) -> x.tray(tray, 1, -1), Bench.BAD, -1, 8, MIN, MAX);
    }

    static void promise02_badLaneAheadOfSize(Due due) {
        Bench.outside(due, "tray(1, %d, -1)", (x, lane) -> x.tray(1, lane, -1), Bench.BAD, -1, 3, MIN, MAX);
    }

    static void promise02_itemsNoughtAtFirst(Due due) {
        for (int lane = 0; lane < 3; lane++) {
            WholeTurns x = new WholeTurns();
            x.tray(0, lane, 100);
            for (int i = 0; i < 100; i += 4) {
                due.is("take(0, 0, " + i + ")", x.take(0, 0, i), 0);
                due.is("norm(0)", x.norm(0), 0);
            }
        }
    }

    static void promise02_inPlaceOfAnother(Due due) {
        for (int size : new int[] {0, 4, 7, 8, 9, 100}) {
            WholeTurns x = Bench.full(4);
            due.is("tray(0, 2, " + size + ") in place", x.tray(0, 2, size), size);
            due.is("status() behind tray()", x.status(), 0);
            for (int i = 0; i + 4 <= size; i += 4) {
                x.take(0, 0, i);
                due.is("norm of the ITEMS from " + i + " on", x.norm(0), 0);
            }
            due.is("set(0, " + size + ", 1)", x.set(0, size, 1), Due.PLACE);
            due.is("the new LANE", size == 0 ? 1L << 40 : x.set(0, size - 1, 1L << 40), 1L << 40);
            due.is("drop(0)", x.drop(0), size);
        }
    }

    static void promise02_sameSizeAgain(Due due) {
        Bench.of(due, "tray(3, 2, 4)", x -> x.tray(3, 2, 4)).item(3, 0, 0).item(3, 1, 0).item(3, 2, 0).item(3, 3, 0).answers(4);
    }

    static void promise02_longItemsUnderAByteLane(Due due) {
        WholeTurns x = new WholeTurns();
        x.tray(0, 2, 4);
        for (int i = 0; i < 4; i++) x.set(0, i, Long.MAX_VALUE);
        x.tray(0, 0, 4);
        due.is("take(0, 0, 0) of new bytes", x.take(0, 0, 0), 0);
        due.is("norm(0)", x.norm(0), 0);
    }

    // ---- promise 3

    static void promise03_trayNumbers(Due due) {
        Bench.span(due, "set(%d, 3, 77)", (x, tray) -> x.set(tray, 3, 77), Bench.BAD, 0, 77, 7, 77);
    }

    static void promise03_firstAndLastItem(Due due) {
        Bench.span(due, "set(0, %d, 77)", (x, i) -> x.set(0, i, 77), Bench.PLACE, 0, 77, 7, 77);
        Bench.span(due, "set(2, %d, 77)", (x, i) -> x.set(2, i, 77), Bench.PLACE, 0, 77, 99, 77);
    }

    static void promise03_onlyThatItem(Due due) {
        Bench.of(due, "set(3, 0, 5)", x -> x.set(3, 0, 5)).item(3, 0, 5).answers(5);
        Bench.of(due, "set(3, 3, -5)", x -> x.set(3, 3, -5)).item(3, 3, -5).answers(-5);
        Bench.of(due, "set(2, 99, 4)", x -> x.set(2, 99, 4)).item(2, 99, 4).answers(4);
    }

    static void promise03_noItems(Due due) {
        Bench.outside(due, "set(6, %d, 1)", (x, i) -> x.set(6, i, 1), Bench.PLACE, 0, -1, 1, MIN, MAX);
    }

    static void promise03_missingTray(Due due) {
        Bench.of(due, "set(5, 0, 1)", x -> x.set(5, 0, 1)).finds(Due.NULL);
    }

    static void promise03_nullAheadOfPlace(Due due) {
        Bench.outside(due, "set(5, %d, 1)", (x, i) -> x.set(5, i, 1), call -> call.finds(Due.NULL), -1, 100, MIN, MAX);
    }

    static void promise03_badAheadOfPlace(Due due) {
        Bench.outside(due, "set(%d, -1, 1)", (x, tray) -> x.set(tray, -1, 1), Bench.BAD, -1, 8, MIN, MAX);
        Bench.outside(due, "set(%d, 100, 1)", (x, tray) -> x.set(tray, 100, 1), Bench.BAD, -1, 8, MIN, MAX);
    }

    private static void sets(Due due, int lane, long[][] rows) {
        WholeTurns x = new WholeTurns();
        x.tray(0, lane, 2);
        for (long[] row : rows) {
            due.is("set(0, 1, " + row[0] + ") of LANE " + lane, x.set(0, 1, row[0]), row[1]);
            due.is("status()", x.status(), 0);
        }
    }

    static void promise03_bytesWrapAround(Due due) {
        sets(due, 0, new long[][] {{127, 127}, {128, -128}, {-128, -128}, {-129, 127}, {255, -1}, {256, 0}, {257, 1}, {-256, 0}, {-1, -1},
            {Long.MAX_VALUE, -1}, {Long.MIN_VALUE, 0}, {Due.BAD, (byte) Due.BAD}});
    }

    static void promise03_intsWrapAround(Due due) {
        sets(due, 1, new long[][] {{2147483647L, 2147483647L}, {2147483648L, -2147483648L}, {-2147483648L, -2147483648L},
            {-2147483649L, 2147483647L}, {4294967295L, -1}, {4294967296L, 0}, {4294967297L, 1}, {-4294967296L, 0}, {-1, -1}, {128, 128},
            {Long.MAX_VALUE, -1}, {Long.MIN_VALUE, 0}});
    }

    static void promise03_longsStay(Due due) {
        sets(due, 2, new long[][] {{Long.MAX_VALUE, Long.MAX_VALUE}, {Long.MIN_VALUE, Long.MIN_VALUE}, {2147483648L, 2147483648L},
            {4294967296L, 4294967296L}, {-1, -1}, {0, 0}});
    }

    static void promise03_keptAsItWrapped(Due due) {
        WholeTurns x = new WholeTurns();
        x.tray(0, 0, 4);
        for (int i = 0; i < 4; i++) x.set(0, i, 256 + i + i);
        due.is("take(0, 0, 0) of bytes", x.take(0, 0, 0), 2);
        due.numbers(x, 0, 0, 2, 4, 6);
        x.tray(0, 1, 4);
        for (int i = 0; i < 4; i++) x.set(0, i, (1L << 32) - 2 * i);
        due.is("take(0, 0, 0) of ints", x.take(0, 0, 0), 2);
        due.numbers(x, 0, 0, -2, -4, -6);
    }

    /** Such an ITEM reads as FULL: four of them are too great a FOUR. */
    static void promise03_itemsLikeRefusals(Due due) {
        for (long like : new long[] {Due.NONE, Due.BAD, Due.STATE, Due.FULL, Due.NULL, Due.PLACE, Due.KIND, Due.SIZE, Due.STORE}) {
            Bench.of(due, "set(3, 1, " + like + ")", x -> x.set(3, 1, like)).item(3, 1, Due.FULL).answers(like);
        }
    }

    // ---- promise 4

    static void promise04_fromTrayNumbers(Due due) {
        Bench.taken(due, "copy(%d, 0, 0, 0, 1)", (x, a) -> x.copy(a, 0, 0, 0, 1), 0, 1);
        Bench.taken(due, "copy(%d, 0, 2, 0, 1)", (x, a) -> x.copy(a, 0, 2, 0, 1), 7, 1);
        Bench.outside(due, "copy(%d, 0, 0, 0, 1)", (x, a) -> x.copy(a, 0, 0, 0, 1), Bench.BAD, -1, 8, MIN, MAX);
    }

    static void promise04_toTrayNumbers(Due due) {
        Bench.taken(due, "copy(0, 0, %d, 0, 1)", (x, b) -> x.copy(0, 0, b, 0, 1), 0, 1);
        Bench.taken(due, "copy(2, 0, %d, 0, 1)", (x, b) -> x.copy(2, 0, b, 0, 1), 7, 1);
        Bench.outside(due, "copy(0, 0, %d, 0, 1)", (x, b) -> x.copy(0, 0, b, 0, 1), Bench.BAD, -1, 8, MIN, MAX);
    }

    static void promise04_fromAMissingTray(Due due) {
        Bench.of(due, "copy(5, 0, 2, 0, 1)", x -> x.copy(5, 0, 2, 0, 1)).finds(Due.NULL);
    }

    static void promise04_toAMissingTray(Due due) {
        Bench.of(due, "copy(2, 0, 5, 0, 1)", x -> x.copy(2, 0, 5, 0, 1)).finds(Due.NULL);
    }

    static void promise04_bothMissing(Due due) {
        Bench.of(due, "copy(5, 0, 5, 0, 0)", x -> x.copy(5, 0, 5, 0, 0)).finds(Due.NULL);
    }

    static void promise04_betweenLanes(Due due) {
        for (int a = 0; a < 3; a++) {
            for (int b = 0; b < 3; b++) {
                int from = a, to = b;
                Bench call = Bench.of(due, "copy(" + a + ", 0, " + b + ", 0, 0)", x -> x.copy(from, 0, to, 0, 0));
                if (a == b) call.answers(0);
                else call.finds(Due.STORE);
            }
        }
        Bench.of(due, "copy(0, 0, 1, 0, 4)", x -> x.copy(0, 0, 1, 0, 4)).finds(Due.STORE);
        Bench.of(due, "copy(1, 0, 2, 0, 4)", x -> x.copy(1, 0, 2, 0, 4)).finds(Due.STORE);
    }

    static void promise04_badAheadOfNull(Due due) {
        Bench.outside(due, "copy(5, 0, %d, 0, 1)", (x, b) -> x.copy(5, 0, b, 0, 1), Bench.BAD, -1, 8);
        Bench.outside(due, "copy(%d, 0, 5, 0, 1)", (x, a) -> x.copy(a, 0, 5, 0, 1), Bench.BAD, -1, 8);
    }

    static void promise04_badAheadOfPlace(Due due) {
        Bench.outside(due, "copy(0, -1, %d, -1, -1)", (x, b) -> x.copy(0, -1, b, -1, -1), Bench.BAD, -1, 8);
        Bench.outside(due, "copy(%d, 9, 0, 9, 9)", (x, a) -> x.copy(a, 9, 0, 9, 9), Bench.BAD, -1, 8);
    }

    static void promise04_nullAheadOfStoreAndPlace(Due due) {
        Bench.of(due, "copy(5, -1, 1, -1, -1)", x -> x.copy(5, -1, 1, -1, -1)).finds(Due.NULL);
        Bench.of(due, "copy(1, 9, 5, 9, 9)", x -> x.copy(1, 9, 5, 9, 9)).finds(Due.NULL);
    }

    static void promise04_storeAheadOfPlace(Due due) {
        Bench.of(due, "copy(0, -1, 1, 0, 1)", x -> x.copy(0, -1, 1, 0, 1)).finds(Due.STORE);
        Bench.of(due, "copy(0, 0, 1, -1, 1)", x -> x.copy(0, 0, 1, -1, 1)).finds(Due.STORE);
        Bench.of(due, "copy(0, 0, 1, 0, -1)", x -> x.copy(0, 0, 1, 0, -1)).finds(Due.STORE);
        Bench.of(due, "copy(0, 0, 1, 0, 9)", x -> x.copy(0, 0, 1, 0, 9)).finds(Due.STORE);
        Bench.of(due, "copy(6, 0, 1, 0, 1)", x -> x.copy(6, 0, 1, 0, 1)).finds(Due.STORE);
    }

    static void promise04_noneOfItems(Due due) {
        Bench.of(due, "copy(2, 0, 7, 0, 0)", x -> x.copy(2, 0, 7, 0, 0)).answers(0);
    }

    static void promise04_noneAtTheEnds(Due due) {
        Bench.of(due, "copy(2, 100, 7, 4, 0)", x -> x.copy(2, 100, 7, 4, 0)).answers(0);
        Bench.outside(due, "copy(2, %d, 7, 0, 0)", (x, i) -> x.copy(2, i, 7, 0, 0), Bench.PLACE, 101, -1, MAX, MIN);
        Bench.outside(due, "copy(2, 0, 7, %d, 0)", (x, j) -> x.copy(2, 0, 7, j, 0), Bench.PLACE, 5, -1, MAX, MIN);
    }

    static void promise04_noneOfAnEmptyTray(Due due) {
        Bench.of(due, "copy(6, 0, 6, 0, 0)", x -> x.copy(6, 0, 6, 0, 0)).answers(0);
        Bench.of(due, "copy(6, 0, 0, 8, 0)", x -> x.copy(6, 0, 0, 8, 0)).answers(0);
        Bench.of(due, "copy(6, 0, 0, 0, 1)", x -> x.copy(6, 0, 0, 0, 1)).finds(Due.PLACE);
        Bench.of(due, "copy(0, 0, 6, 0, 1)", x -> x.copy(0, 0, 6, 0, 1)).finds(Due.PLACE);
    }

    static void promise04_placeBelowNought(Due due) {
        Bench.outside(due, "copy(2, %d, 7, 0, 1)", (x, i) -> x.copy(2, i, 7, 0, 1), Bench.PLACE, -1, MIN);
        Bench.outside(due, "copy(2, 0, 7, %d, 1)", (x, j) -> x.copy(2, 0, 7, j, 1), Bench.PLACE, -1, MIN);
    }

    static void promise04_fewerThanNone(Due due) {
        Bench.outside(due, "copy(2, 0, 7, 0, %d)", (x, n) -> x.copy(2, 0, 7, 0, n), Bench.PLACE, -1, -2, MIN);
        Bench.outside(due, "copy(2, 50, 7, 4, %d)", (x, n) -> x.copy(2, 50, 7, 4, n), Bench.PLACE, -1, MIN);
    }

    static void promise04_toTheEndOfTheFirst(Due due) {
        Bench.of(due, "copy(2, 97, 7, 0, 3)", x -> x.copy(2, 97, 7, 0, 3)).item(7, 0, 0).item(7, 1, 0).item(7, 2, 2).answers(3);
        Bench.outside(due, "copy(2, %d, 7, 0, 3)", (x, i) -> x.copy(2, i, 7, 0, 3), Bench.PLACE, 98, 99, 100, 101);
        Bench.outside(due, "copy(2, 97, 7, 0, %d)", (x, n) -> x.copy(2, 97, 7, 0, n), Bench.PLACE, 4, 5, MAX);
        Bench.of(due, "copy(2, 99, 7, 0, 1), the last ITEM", x -> x.copy(2, 99, 7, 0, 1)).item(7, 0, 2).answers(1);
        Bench.of(due, "copy(2, 100, 7, 0, 1), behind it", x -> x.copy(2, 100, 7, 0, 1)).finds(Due.PLACE);
    }

    static void promise04_toTheEndOfTheSecond(Due due) {
        Bench.of(due, "copy(7, 0, 2, 97, 3)", x -> x.copy(7, 0, 2, 97, 3)).item(2, 97, 4).item(2, 98, 2).item(2, 99, 2).answers(3);
        Bench.outside(due, "copy(7, 0, 2, %d, 3)", (x, j) -> x.copy(7, 0, 2, j, 3), Bench.PLACE, 98, 99, 100, 101);
        Bench.of(due, "copy(2, 0, 7, 3, 1), to the last ITEM", x -> x.copy(2, 0, 7, 3, 1)).item(7, 3, 6).answers(1);
        Bench.outside(due, "copy(2, 0, 7, 3, %d)", (x, n) -> x.copy(2, 0, 7, 3, n), Bench.PLACE, 2, 3, MAX);
    }

    static void promise04_all(Due due) {
        Bench.of(due, "copy(3, 0, 7, 0, 4)", x -> x.copy(3, 0, 7, 0, 4))
            .item(7, 0, Due.BAD).item(7, 1, Due.BAD).item(7, 2, Due.BAD).item(7, 3, Due.BAD).answers(4);
        Bench.of(due, "copy(7, 0, 3, 0, 4)", x -> x.copy(7, 0, 3, 0, 4)).item(3, 0, 4).item(3, 1, 2).item(3, 2, 2).item(3, 3, 6).answers(4);
        Bench.of(due, "copy(7, 0, 3, 0, 5)", x -> x.copy(7, 0, 3, 0, 5)).finds(Due.PLACE);
    }

    static void promise04_endsThatWrapAround(Due due) {
        Bench.of(due, "copy(2, MAX, 2, 0, 1)", x -> x.copy(2, MAX, 2, 0, 1)).finds(Due.PLACE);
        Bench.of(due, "copy(2, 0, 2, MAX, 1)", x -> x.copy(2, 0, 2, MAX, 1)).finds(Due.PLACE);
        Bench.of(due, "copy(2, 1, 2, 1, MAX)", x -> x.copy(2, 1, 2, 1, MAX)).finds(Due.PLACE);
        Bench.of(due, "copy(2, MAX, 2, MAX, MAX)", x -> x.copy(2, MAX, 2, MAX, MAX)).finds(Due.PLACE);
        Bench.of(due, "copy(2, MIN, 2, MIN, MIN)", x -> x.copy(2, MIN, 2, MIN, MIN)).finds(Due.PLACE);
        Bench.of(due, "copy(2, MIN, 2, 0, MAX)", x -> x.copy(2, MIN, 2, 0, MAX)).finds(Due.PLACE);
        Bench.of(due, "copy(2, MAX - 10, 2, 0, 20)", x -> x.copy(2, MAX - 10, 2, 0, 20)).finds(Due.PLACE);
        Bench.of(due, "copy(2, 0, 2, MAX - 10, 20)", x -> x.copy(2, 0, 2, MAX - 10, 20)).finds(Due.PLACE);
    }

    static void promise04_ontoItselfForth(Due due) {
        WholeTurns x = Bench.full(4);
        for (int i = 0; i < 8; i++) x.set(0, i, 2 * i + 2);
        due.is("copy(0, 0, 0, 2, 6)", x.copy(0, 0, 0, 2, 6), 6);
        x.take(0, 0, 0);
        due.numbers(x, 0, 2, 4, 2, 4);
        x.take(0, 0, 4);
        due.numbers(x, 0, 6, 8, 10, 12);
    }

    static void promise04_ontoItselfBack(Due due) {
        WholeTurns x = Bench.full(4);
        for (int i = 0; i < 8; i++) x.set(0, i, 2 * i + 2);
        due.is("copy(0, 1, 0, 0, 7)", x.copy(0, 1, 0, 0, 7), 7);
        x.take(0, 0, 0);
        due.numbers(x, 0, 4, 6, 8, 10);
        x.take(0, 0, 4);
        due.numbers(x, 0, 12, 14, 16, 16);
    }

    static void promise04_ontoTheSamePlace(Due due) {
        Bench.of(due, "copy(0, 0, 0, 0, 8)", x -> x.copy(0, 0, 0, 0, 8)).answers(8);
        Bench.of(due, "copy(2, 0, 2, 0, 100)", x -> x.copy(2, 0, 2, 0, 100)).answers(100);
        Bench.of(due, "copy(2, 0, 2, 0, 101)", x -> x.copy(2, 0, 2, 0, 101)).finds(Due.PLACE);
    }

    // ---- promise 5

    static void promise05_trayNumbers(Due due) {
        Bench.span(due, "drop(%d)", (x, tray) -> x.drop(tray), Bench.BAD, 0, 8, 7, 4);
    }

    static void promise05_onlyThatTray(Due due) {
        Bench.of(due, "drop(1)", x -> x.drop(1)).gone(1).answers(8);
    }

    static void promise05_withoutItems(Due due) {
        Bench.of(due, "drop(6)", x -> x.drop(6)).gone(6).answers(0);
    }

    static void promise05_withAHundredItems(Due due) {
        Bench.of(due, "drop(2)", x -> x.drop(2)).gone(2).answers(100);
    }

    static void promise05_missing(Due due) {
        Bench.of(due, "drop(5)", x -> x.drop(5)).finds(Due.NULL);
    }

    static void promise05_twice(Due due) {
        WholeTurns x = Bench.full(4);
        due.is("drop(0)", x.drop(0), 8);
        due.is("drop(0) again", x.drop(0), Due.NULL);
        due.is("set(0, 0, 1)", x.set(0, 0, 1), Due.NULL);
        due.is("take(9, 0, 0)", x.take(9, 0, 0), Due.NULL);
        due.is("copy(0, 0, 0, 0, 0)", x.copy(0, 0, 0, 0, 0), Due.NULL);
        due.is("tray(0, 0, 4)", x.tray(0, 0, 4), 4);
        due.is("take(9, 0, 0) of ITEMS that are 0 again", x.take(9, 0, 0), 0);
        due.is("norm(9)", x.norm(9), 0);
    }

    static void promise05_foursTakenFromItStay(Due due) {
        WholeTurns x = new WholeTurns();
        Due.put(x, 0, 2, 4, 6, 8);
        due.is("drop(7)", x.drop(7), 4);
        due.numbers(x, 0, 2, 4, 6, 8);
    }
}
