import java.util.LinkedHashMap;
import java.util.Map;

/** The boundary cases of promise 34, and those of the document's terms that belong to no single promise. */
final class StatusEdges {
    private StatusEdges() {
    }

    /** A full bench whose latest FINDING is of a number, 1 to 5; 0: there was none. */
    private static WholeTurns found(Due due, int number) {
        WholeTurns x = Bench.full(0);
        if (number == 1) due.is("NULL", x.norm(9), Due.NULL);
        if (number == 2) due.is("PLACE", x.set(0, 8, 1), Due.PLACE);
        if (number == 3) due.is("KIND", x.as(4, 2), Due.KIND);
        if (number == 4) due.is("SIZE", x.tray(5, 0, -1), Due.SIZE);
        if (number == 5) due.is("STORE", x.copy(0, 0, 1, 0, 0), Due.STORE);
        return x;
    }

    /** Behind each FINDING, or none, the call answers so and status() is the one ahead, or 0. */
    private static void behindEach(Due due, Map<String, Bench.Call> calls, long answer, boolean stays) {
        for (String name : calls.keySet()) {
            for (int number = 0; number <= 5; number++) {
                WholeTurns x = found(due, number);
                due.is(name, calls.get(name).on(x), answer);
                due.is("status() behind " + number + " and " + name, x.status(), stays ? number : 0);
                due.is("status() again", x.status(), stays ? number : 0);
            }
        }
    }

    // ---- promise 34

    static void promise34_ofANewObject(Due due) {
        WholeTurns x = new WholeTurns();
        due.is("status()", x.status(), 0);
        due.is("status() again", x.status(), 0);
    }

    static void promise34_eachFinding(Due due) {
        for (int number = 1; number <= 5; number++) {
            WholeTurns x = found(due, number);
            due.is("status()", x.status(), number);
            due.is("status() is not told of itself", x.status(), number);
        }
    }

    static void promise34_theLatestFinding(Due due) {
        WholeTurns x = found(due, 1);
        x.as(4, 2);
        due.is("KIND behind NULL", x.status(), 3);
        x.set(0, -1, 1);
        due.is("PLACE behind KIND", x.status(), 2);
        x.tray(5, 0, -1);
        due.is("SIZE behind PLACE", x.status(), 4);
        x.copy(0, 0, 1, 0, 0);
        due.is("STORE behind SIZE", x.status(), 5);
        x.drop(5);
        due.is("NULL behind STORE", x.status(), 1);
    }

    static void promise34_onlyBadCalls(Due due) {
        WholeTurns x = new WholeTurns();
        x.norm(20);
        x.tray(8, 0, -1);
        x.copy(0, 0, 8, 0, 0);
        due.is("status() behind BAD alone", x.status(), 0);
    }

    static void promise34_behindBad(Due due) {
        Map<String, Bench.Call> calls = new LinkedHashMap<>();
        calls.put("tray", x -> x.tray(0, 0, 101));
        calls.put("set", x -> x.set(8, 0, 0));
        calls.put("copy", x -> x.copy(0, 0, 8, 0, 0));
        calls.put("drop", x -> x.drop(-1));
        calls.put("take of a SLOT", x -> x.take(20, 0, 0));
        calls.put("take of odd and even", x -> x.take(0, 3, 0));
        calls.put("number", x -> x.number(0, 4));
        calls.put("norm", x -> x.norm(20));
        calls.put("kind", x -> x.kind(-1));
        calls.put("is", x -> x.is(0, 5));
        calls.put("as", x -> x.as(0, -1));
        calls.put("ask", x -> x.ask(0, 3));
        calls.put("times", x -> x.times(0, 0, 20));
        calls.put("sum", x -> x.sum(20, 0, 0));
        calls.put("back", x -> x.back(0, -1));
        calls.put("over", x -> x.over(0, 1, 0, 1, 2));
        calls.put("greatest", x -> x.greatest(0, 0, 1, -1));
        calls.put("associate", x -> x.associate(0, 0, 2));
        calls.put("plain", x -> x.plain(20, 0));
        calls.put("part", x -> x.part(0, 20, 0));
        calls.put("table", x -> x.table(0, 3, 0, 0));
        calls.put("turn", x -> x.turn(0, 1001, 0, 0, 0, 0));
        calls.put("order", x -> x.order(20));
        calls.put("axis", x -> x.axis(0, 3));
        calls.put("alike", x -> x.alike(0, 20));
        calls.put("index", x -> x.index(-1));
        calls.put("cell", x -> x.cell(0, 6));
        behindEach(due, calls, Due.BAD, true);
    }

    static void promise34_behindState(Due due) {
        Map<String, Bench.Call> calls = new LinkedHashMap<>();
        calls.put("over", x -> x.over(0, 1, 0, 4, 0));
        calls.put("greatest", x -> x.greatest(0, 4, 4, 0));
        calls.put("plain", x -> x.plain(0, 4));
        calls.put("part", x -> x.part(0, 1, 0));
        calls.put("table", x -> x.table(4, 0, 0, 0));
        calls.put("turn", x -> x.turn(4, 0, 0, 0, 0, 0));
        calls.put("order", x -> x.order(4));
        calls.put("axis", x -> x.axis(4, 0));
        calls.put("alike", x -> x.alike(0, 4));
        calls.put("index", x -> x.index(4));
        calls.put("cell", x -> x.cell(4, 0));
        behindEach(due, calls, Due.STATE, true);
    }

    static void promise34_behindFull(Due due) {
        Map<String, Bench.Call> calls = new LinkedHashMap<>();
        calls.put("take", x -> x.take(0, 4, 0));
        calls.put("times", x -> x.times(0, 7, 7));
        calls.put("sum", x -> x.sum(0, 7, 7));
        calls.put("cell", x -> x.cell(8, 0));
        behindEach(due, calls, Due.FULL, true);
    }

    static void promise34_clearIsNotCounted(Due due) {
        behindEach(due, Map.of("clear of a FOUR", x -> x.clear(0)), 1, true);
        behindEach(due, Map.of("clear of a missing one", x -> x.clear(9)), 0, true);
        behindEach(due, Map.of("clear that is BAD", x -> x.clear(20)), Due.BAD, true);
    }

    static void promise34_traceIsNotCounted(Due due) {
        behindEach(due, Map.of("trace", x -> x.trace(0)), 22, true);
        behindEach(due, Map.of("trace of NONE", x -> x.trace(16)), Due.NONE, true);
    }

    static void promise34_manyIsNotCounted(Due due) {
        behindEach(due, Map.of("many", x -> x.many(1)), 24, true);
        behindEach(due, Map.of("many that is BAD", x -> x.many(0)), Due.BAD, true);
    }

    static void promise34_listIsNotCounted(Due due) {
        behindEach(due, Map.of("list", x -> x.list(0, 1, 0)), 4, true);
        behindEach(due, Map.of("list of NONE", x -> x.list(0, 1, 24)), Due.NONE, true);
        behindEach(due, Map.of("list that is BAD", x -> x.list(0, 151, 0)), Due.BAD, true);
    }

    static void promise34_squaresIsNotCounted(Due due) {
        behindEach(due, Map.of("squares", x -> x.squares(0)), 1, true);
        behindEach(due, Map.of("squares that is BAD", x -> x.squares(-1)), Due.BAD, true);
    }

    static void promise34_threeIsNotCounted(Due due) {
        behindEach(due, Map.of("three", x -> x.three(7)), 0, true);
        behindEach(due, Map.of("three that is BAD", x -> x.three(-1)), Due.BAD, true);
    }

    static void promise34_noneIsCounted(Due due) {
        behindEach(due, Map.of("part of NONE", x -> x.part(0, 0, 4)), Due.NONE, false);
        behindEach(due, Map.of("order of NONE", x -> x.order(0)), Due.NONE, false);
        behindEach(due, Map.of("axis of NONE", x -> x.axis(1, 0)), Due.NONE, false);
    }

    static void promise34_noughtBehindAnAnswer(Due due) {
        Map<String, Bench.Call> calls = new LinkedHashMap<>();
        calls.put("tray", x -> x.tray(5, 0, 0));
        calls.put("set", x -> x.set(0, 0, 256));
        calls.put("copy", x -> x.copy(0, 0, 0, 0, 0));
        calls.put("drop", x -> x.drop(6));
        calls.put("take", x -> x.take(0, 1, 4));
        calls.put("number", x -> x.number(7, 0));
        calls.put("norm", x -> x.norm(4));
        calls.put("kind", x -> x.kind(4));
        calls.put("is", x -> x.is(4, 1));
        calls.put("as", x -> x.as(4, 0));
        calls.put("ask", x -> x.ask(4, 2));
        calls.put("times", x -> x.times(0, 4, 7));
        calls.put("sum", x -> x.sum(0, 4, 7));
        calls.put("back", x -> x.back(0, 4));
        calls.put("over", x -> x.over(0, 1, 0, 1, 0));
        calls.put("associate", x -> x.associate(0, 4, 0));
        calls.put("table", x -> x.table(7, 0, 2, 0));
        calls.put("turn", x -> x.turn(0, 0, 0, 0, 0, 0));
        calls.put("alike", x -> x.alike(0, 19));
        calls.put("cell", x -> x.cell(1, 1));
        behindEach(due, calls, 0, false);
        behindEach(due, Map.of("greatest", x -> x.greatest(0, 0, 1, 0), "plain", x -> x.plain(0, 0), "index", x -> x.index(1),
            "order", x -> x.order(1), "axis", x -> x.axis(19, 0)), 1, false);
        behindEach(due, Map.of("part", x -> x.part(0, 0, 0)), 4, false);
    }

    // ---- terms

    static void terms_numbersOfTheFindings(Due due) {
        WholeTurns x = Bench.full(0);
        due.is("NULL is 1", x.norm(9), -1000011);
        due.is("PLACE is 2", x.set(0, 8, 1), -1000012);
        due.is("KIND is 3", x.as(4, 2), -1000013);
        due.is("SIZE is 4", x.tray(5, 0, -1), -1000014);
        due.is("STORE is 5", x.copy(0, 0, 1, 0, 0), -1000015);
    }

    static void terms_numbersOfTheRefusals(Due due) {
        WholeTurns x = Bench.full(0);
        due.is("BAD", x.norm(20), -1000001);
        due.is("STATE", x.order(4), -1000002);
        due.is("FULL", x.sum(0, 7, 7), -1000003);
        due.is("NONE", x.axis(1, 0), -1000000);
    }

    static void terms_allSlotsAtOnce(Due due) {
        WholeTurns x = new WholeTurns();
        for (int slot = 0; slot < 20; slot++) due.is("list(" + slot + ", 1, " + slot + ")", x.list(slot, 1, slot), 4);
        for (int slot = 0; slot < 20; slot++) {
            x.list(0, 1, slot);
            if (slot > 0) due.is("alike(0, " + slot + ")", x.alike(0, slot), 1);
            for (int k = 0; k < 4; k++) due.is("number(" + slot + ", " + k + ")", x.number(slot, k), x.number(0, k));
        }
    }

    static void terms_allTraysAtOnce(Due due) {
        WholeTurns x = new WholeTurns();
        for (int tray = 0; tray < 8; tray++) {
            x.tray(tray, tray % 3, 4);
            for (int i = 0; i < 4; i++) x.set(tray, i, 2 * tray + 8 * i);
        }
        for (int tray = 0; tray < 8; tray++) {
            x.take(0, tray, 0);
            due.numbers(x, 0, 2 * tray, 2 * tray + 8, 2 * tray + 16, 2 * tray + 24);
        }
    }

    static void terms_unitsAreThoseOfNormOne(Due due) {
        int units = 0;
        for (int code = 0; code < 625; code++) {
            int w = code % 5 - 2, i = code / 5 % 5 - 2, j = code / 25 % 5 - 2, k = code / 125 - 2;
            WholeTurns x = new WholeTurns();
            long kind = Due.put(x, 0, w, i, j, k);
            if (kind == Due.BAD) continue;
            due.is("kind of " + w + " " + i + " " + j + " " + k, kind == 4 ? 1 : 0, x.norm(0) == 1 ? 1 : 0);
            if (kind == 4) units++;
        }
        due.is("how many UNITS", units, 24);
    }

    /** The 512th call is the last one that is promised; a later one answers anything, and nothing breaks. */
    static void terms_lastCall(Due due) {
        WholeTurns x = Due.with(2, 4, 6, 8);
        for (int call = 7; call < 511; call++) x.part(1, 0, 2);
        due.is("the 512th call", x.part(1, 0, 2), 4);
        WholeTurns y = Due.with(2, 4, 6, 8);
        for (int call = 0; call < 2000; call++) {
            y.ask(0, 1);
            y.times(1, 0, 0);
        }
        due.holds("calls far behind the 512th end", y.trace(3) <= 10);
    }
}
