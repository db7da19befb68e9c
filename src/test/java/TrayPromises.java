/** Promises 1 to 5: a new object, and its TRAYS. */
final class TrayPromises {
    private TrayPromises() {
    }

    static void promise01(Due due) {
        WholeTurns x = new WholeTurns();
        due.is("status()", x.status(), 0);
        for (int slot = 0; slot < 20; slot++) {
            due.is("kind(" + slot + ")", x.kind(slot), Due.NULL);
            due.is("clear(" + slot + ")", x.clear(slot), 0);
        }
        for (int tray = 0; tray < 8; tray++) due.is("drop(" + tray + ")", x.drop(tray), Due.NULL);
        due.is("trace(0)", x.trace(0), Due.NONE);
        due.is("NONE", WholeTurns.NONE, -1000000);
        due.is("BAD", WholeTurns.BAD, -1000001);
        due.is("STATE", WholeTurns.STATE, -1000002);
        due.is("FULL", WholeTurns.FULL, -1000003);
        WholeTurns other = new WholeTurns();
        Due.put(other, 0, 2, 0, 0, 0);
        due.is("kind(0), of another object", x.kind(0), Due.NULL);
    }

    static void promise02(Due due) {
        WholeTurns x = new WholeTurns();
        due.is("tray(0, 0, 0)", x.tray(0, 0, 0), 0);
        due.is("set(0, 0, 1) of none", x.set(0, 0, 1), Due.PLACE);
        due.is("tray(7, 2, 100)", x.tray(7, 2, 100), 100);
        due.is("set(7, 99, 5)", x.set(7, 99, 5), 5);
        due.is("tray(7, 2, 101)", x.tray(7, 2, 101), Due.BAD);
        due.is("drop(7) after BAD", x.drop(7), 100);
        due.is("tray(8, 0, 1)", x.tray(8, 0, 1), Due.BAD);
        due.is("tray(-1, 0, 1)", x.tray(-1, 0, 1), Due.BAD);
        due.is("tray(0, 3, 1)", x.tray(0, 3, 1), Due.BAD);
        due.is("tray(0, -1, 1)", x.tray(0, -1, 1), Due.BAD);
        due.is("tray(0, 1, MAX)", x.tray(0, 1, Integer.MAX_VALUE), Due.BAD);
        due.is("tray(8, 0, -1): BAD is first", x.tray(8, 0, -1), Due.BAD);
        due.is("tray(0, 3, -1): BAD is first", x.tray(0, 3, -1), Due.BAD);
        due.is("tray(0, 1, 3)", x.tray(0, 1, 3), 3);
        due.is("tray(0, 1, -1)", x.tray(0, 1, -1), Due.SIZE);
        due.is("status()", x.status(), 4);
        due.is("tray(0, 1, MIN)", x.tray(0, 1, Integer.MIN_VALUE), Due.SIZE);
        due.is("drop(0) after SIZE", x.drop(0), 3);
        due.is("kept by BAD", x.tray(3, 3, 0), Due.BAD);
        due.is("tray(3, 3, 0) made none", x.drop(3), Due.NULL);
        itemsBeginAtNought(due);
    }

    private static void itemsBeginAtNought(Due due) {
        WholeTurns x = new WholeTurns();
        x.tray(0, 2, 100);
        for (int i = 0; i < 100; i++) x.set(0, i, 1001);
        due.is("tray(0, 2, 4) in place of another", x.tray(0, 2, 4), 4);
        due.is("take of ITEMS 0 at first", x.take(0, 0, 0), 0);
        due.is("PLACE 4 of the new TRAY", x.set(0, 4, 1), Due.PLACE);
        x.tray(0, 2, 100);
        due.is("take of the last ITEMS, 0 again", x.take(1, 0, 96), 0);
        due.is("norm", x.norm(1), 0);
        due.is("another LANE in place", x.tray(0, 0, 1), 1);
        due.is("its lowest 8 bits", x.set(0, 0, 128), -128);
    }

    static void promise03(Due due) {
        WholeTurns x = new WholeTurns();
        x.tray(0, 0, 2);
        x.tray(1, 1, 2);
        x.tray(2, 2, 2);
        due.is("byte 127", x.set(0, 0, 127), 127);
        due.is("byte 128", x.set(0, 0, 128), -128);
        due.is("byte 511", x.set(0, 1, 511), -1);
        due.is("byte 256", x.set(0, 1, 256), 0);
        due.is("byte -129", x.set(0, 1, -129), 127);
        due.is("int 2147483648", x.set(1, 0, 2147483648L), -2147483648L);
        due.is("int 4294967297", x.set(1, 1, 4294967297L), 1);
        due.is("int 2147483647", x.set(1, 1, 2147483647L), 2147483647L);
        due.is("long MIN", x.set(2, 0, Long.MIN_VALUE), Long.MIN_VALUE);
        due.is("long MAX", x.set(2, 1, Long.MAX_VALUE), Long.MAX_VALUE);
        due.is("set(8, 0, 1)", x.set(8, 0, 1), Due.BAD);
        due.is("set(-1, 0, 1)", x.set(-1, 0, 1), Due.BAD);
        due.is("set(3, -1, 1): NULL is ahead of PLACE", x.set(3, -1, 1), Due.NULL);
        due.is("status()", x.status(), 1);
        due.is("set(2, 2, 1)", x.set(2, 2, 1), Due.PLACE);
        due.is("status()", x.status(), 2);
        due.is("set(2, -1, 1)", x.set(2, -1, 1), Due.PLACE);
        due.is("set(2, MIN, 1)", x.set(2, Integer.MIN_VALUE, 1), Due.PLACE);
        due.is("an ITEM like BAD", x.set(2, 0, Due.BAD), Due.BAD);
        due.is("status() of an ITEM like BAD", x.status(), 0);
        x.drop(5);
        due.is("an ITEM like a FINDING", x.set(2, 0, Due.PLACE), Due.PLACE);
        due.is("status() of an ITEM like a FINDING", x.status(), 0);
        x.drop(2);
        due.is("set of a dropped TRAY", x.set(2, 0, 1), Due.NULL);
    }

    static void promise04(Due due) {
        WholeTurns x = new WholeTurns();
        x.tray(0, 2, 8);
        x.tray(1, 2, 4);
        x.tray(2, 1, 4);
        for (int i = 0; i < 8; i++) x.set(0, i, 2 * i + 2);
        due.is("copy(0, 2, 1, 0, 4)", x.copy(0, 2, 1, 0, 4), 4);
        x.take(0, 1, 0);
        due.numbers(x, 0, 6, 8, 10, 12);
        due.is("copy(0, 0, 0, 2, 6) onto itself", x.copy(0, 0, 0, 2, 6), 6);
        x.take(0, 0, 0);
        due.numbers(x, 0, 2, 4, 2, 4);
        x.take(0, 0, 4);
        due.numbers(x, 0, 6, 8, 10, 12);
        due.is("copy(0, 2, 0, 0, 6) back", x.copy(0, 2, 0, 0, 6), 6);
        x.take(0, 0, 4);
        due.numbers(x, 0, 10, 12, 10, 12);
        copyRefuses(due, x);
    }

    private static void copyRefuses(Due due, WholeTurns x) {
        due.is("copy of none at an end", x.copy(0, 8, 1, 4, 0), 0);
        due.is("copy(8, ..)", x.copy(8, 0, 0, 0, 1), Due.BAD);
        due.is("copy(.., -1, ..)", x.copy(0, 0, -1, 0, 1), Due.BAD);
        due.is("copy(.., 8, ..) from a missing one", x.copy(5, 0, 8, 0, 1), Due.BAD);
        due.is("copy from a missing TRAY", x.copy(5, 0, 0, 0, 1), Due.NULL);
        due.is("copy to a missing TRAY", x.copy(0, -1, 5, 0, 1), Due.NULL);
        due.is("status()", x.status(), 1);
        due.is("copy between LANES", x.copy(0, 0, 2, 0, 1), Due.STORE);
        due.is("status()", x.status(), 5);
        due.is("copy between LANES: STORE is ahead of PLACE", x.copy(2, -1, 0, 0, -1), Due.STORE);
        due.is("copy of none between LANES", x.copy(2, 0, 0, 0, 0), Due.STORE);
        int[][] beyond = {{-1, 0, 1}, {0, -1, 1}, {0, 0, -1}, {5, 0, 4}, {0, 1, 4}, {9, 0, 0}, {0, 5, 0},
            {0, 0, 5}, {Integer.MAX_VALUE, 0, 1}, {1, 0, Integer.MAX_VALUE}, {0, Integer.MAX_VALUE, Integer.MAX_VALUE},
            {0, 0, Integer.MIN_VALUE}, {Integer.MIN_VALUE, 0, 1}, {8, 0, 1}, {0, 4, 1}};
        for (int[] at : beyond) {
            due.is("copy(0, " + at[0] + ", 1, " + at[1] + ", " + at[2] + ")", x.copy(0, at[0], 1, at[1], at[2]), Due.PLACE);
        }
        due.is("status()", x.status(), 2);
        x.take(0, 1, 0);
        due.numbers(x, 0, 6, 8, 10, 12);
    }

    static void promise05(Due due) {
        WholeTurns x = new WholeTurns();
        x.tray(0, 0, 0);
        x.tray(7, 1, 100);
        due.is("drop(0)", x.drop(0), 0);
        due.is("drop(7)", x.drop(7), 100);
        due.is("drop(7) again", x.drop(7), Due.NULL);
        due.is("status()", x.status(), 1);
        due.is("drop(8)", x.drop(8), Due.BAD);
        due.is("drop(-1)", x.drop(-1), Due.BAD);
        due.is("status() is as it was", x.status(), 1);
        due.is("take from a dropped TRAY", x.take(0, 7, 0), Due.NULL);
        due.is("copy from a dropped TRAY", x.copy(7, 0, 7, 0, 0), Due.NULL);
    }
}
