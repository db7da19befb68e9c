import java.util.ArrayList;
import java.util.HashMap;
import java.util.LinkedHashMap;
import java.util.List;
import java.util.Map;

/**
 * One call on a full bench: what it answers, and what all the rest answers behind it, held against a bench that
 * did not get the call. So a test that tells of no change holds that there is none.
 */
final class Bench {
    interface Call {
        long on(WholeTurns x);
    }

    interface Numbered {
        long on(WholeTurns x, int number);
    }

    interface End {
        void of(Bench call);
    }

    /** How calls end that a number outside of what is told makes end early. */
    static final End BAD = call -> call.refuses(Due.BAD), PLACE = call -> call.finds(Due.PLACE);

    /** SLOTS 9 to 18 are missing. */
    private static final long[][] FOURS = {
        {0, 2, 4, 6, 8}, {1, 2, 0, 0, 0}, {2, 1, 1, 1, 1}, {3, 3, 1, 1, 1}, {4, 0, 0, 0, 0}, {5, 3, 3, 3, 3}, {6, 4, 0, 0, 0},
        {7, 0, 60000, 20000, 0}, {8, 62001, 3, 5, 7}, {19, 4, 2, 2, 6}};
    static final int PLAIN = 0, ONE = 1, UNIT = 2, PRIME = 3, NOUGHT = 4, HALF = 5, FOUR = 6, GREATEST = 7, GREAT = 8, LAST = 19;
    static final int MISSING = 9, MISSING_TOO = 18;

    /** Rows: a TRAY, its LANE, its size. TRAY 5 is missing; TRAY 7 has the latest FOUR put. */
    private static final int[][] TRAYS = {{0, 0, 8}, {1, 1, 8}, {2, 2, 100}, {3, 2, 4}, {4, 2, 4}, {6, 0, 0}, {7, 2, 4}};
    private static final long[][] ITEMS = {
        {2, 4, 6, 8, 3, 1, 1, 1}, {2, 2, 0, 0, 4, 4, 4, 0}, {6, 2, 2, 0}, {2, 1, 1, 1}, {100000, 0, 0, 0}, {}, {4, 2, 2, 6}};
    private static final long[] LAST_ITEMS = {2, 0, 0, 2};
    static final int BYTES = 0, INTS = 1, LONGS = 2, MIXED = 3, TOO_GREAT = 4, NO_TRAY = 5, EMPTY = 6;

    private static final int LONGEST_TRACE = 17;
    /** A full bench's status, if it has a FINDING: one that few calls have. */
    private static final int FOUND = 4;
    private static final Map<Integer, Map<String, Long>> UNTOUCHED = new HashMap<>();

    private final Due due;
    private final String text;
    private final Call call;
    private final Map<String, Long> changes = new LinkedHashMap<>();
    private final List<String> gone = new ArrayList<>();

    private Bench(Due due, String text, Call call) {
        this.due = due;
        this.text = text;
        this.call = call;
    }

    static Bench of(Due due, String text, Call call) {
        return new Bench(due, text, call);
    }

    // ---- what is due behind the call, beside its answer and status()

    Bench four(int slot, long kind, long w, long x, long y, long z) {
        changes.put("kind(" + slot + ")", kind);
        long[] numbers = {w, x, y, z};
        for (int k = 0; k < 4; k++) changes.put("number(" + slot + ", " + k + ")", numbers[k]);
        return this;
    }

    Bench missing(int slot) {
        changes.put("kind(" + slot + ")", Due.NULL);
        for (int k = 0; k < 4; k++) changes.put("number(" + slot + ", " + k + ")", Due.NULL);
        return this;
    }

    Bench item(int tray, int i, long v) {
        changes.put(itemName(tray, i), v);
        return this;
    }

    Bench gone(int tray) {
        changes.put("copy(" + tray + ", 0, " + tray + ", 0, 0)", Due.NULL);
        gone.add("TRAY " + tray + ":");
        return this;
    }

    Bench trace(long... bodies) {
        for (int i = 0; i < LONGEST_TRACE; i++) changes.put("trace(" + i + ")", i < bodies.length ? bodies[i] : Due.NONE);
        return this;
    }

    // ---- how the call ends

    /** It is answered, and has no FINDING. */
    void answers(long answer) {
        hold(0, answer, 0);
        hold(FOUND, answer, 0);
    }

    /** BAD, STATE, FULL, and what is no call for status(): that stays what it was. */
    void refuses(long answer) {
        hold(0, answer, 0);
        hold(FOUND, answer, FOUND);
    }

    void finds(long answer) {
        hold(0, answer, -1000010 - answer);
        hold(FOUND, answer, -1000010 - answer);
    }

    private void hold(int statusAhead, long answer, long statusBehind) {
        WholeTurns x = full(statusAhead);
        due.is(text, call.on(x), answer);
        Map<String, Long> want = new LinkedHashMap<>(UNTOUCHED.computeIfAbsent(statusAhead, status -> readings(full(status))));
        want.keySet().removeIf(name -> gone.stream().anyMatch(name::startsWith));
        want.putAll(changes);
        want.put("status()", statusBehind);
        Map<String, Long> got = readings(x);
        for (String name : want.keySet()) due.is(name + " behind " + text, got.getOrDefault(name, Long.MIN_VALUE), want.get(name));
        for (String name : got.keySet()) due.holds(name + " is there behind " + text, want.containsKey(name));
    }

    // ---- numbers at the edges

    /** The least and the greatest number that are taken, and what they answer; one less, one more and far ones are not. */
    static void span(Due due, String format, Numbered call, End end, int low, long answerLow, int high, long answerHigh) {
        taken(due, format, call, low, answerLow);
        taken(due, format, call, high, answerHigh);
        outside(due, format, call, end, low - 1, high + 1, Integer.MIN_VALUE, Integer.MAX_VALUE);
    }

    static void taken(Due due, String format, Numbered call, int number, long answer) {
        WholeTurns x = full(FOUND);
        due.is(String.format(format, number), call.on(x, number), answer);
        due.is("status() behind " + String.format(format, number), x.status(), 0);
    }

    static void outside(Due due, String format, Numbered call, End end, int... numbers) {
        for (int number : numbers) end.of(of(due, String.format(format, number), x -> call.on(x, number)));
    }

    // ---- the full bench

    static WholeTurns full(int status) {
        WholeTurns x = new WholeTurns();
        for (long[] four : FOURS) Due.put(x, (int) four[0], four[1], four[2], four[3], four[4]);
        for (int at = 0; at < TRAYS.length; at++) {
            x.tray(TRAYS[at][0], TRAYS[at][1], TRAYS[at][2]);
            for (int i = 0; i < ITEMS[at].length; i++) if (ITEMS[at][i] != 0) x.set(TRAYS[at][0], i, ITEMS[at][i]);
        }
        for (int i = 0; i < 4; i++) x.set(LONGS, 96 + i, LAST_ITEMS[i]);
        x.ask(PRIME, 1);
        if (status == FOUND) x.tray(NO_TRAY, 0, -1);
        return x;
    }

    // ---- all that can be read of it, by some 260 calls

    private static Map<String, Long> readings(WholeTurns x) {
        Map<String, Long> all = new LinkedHashMap<>();
        all.put("status()", (long) x.status());
        for (int i = 0; i < LONGEST_TRACE; i++) all.put("trace(" + i + ")", (long) x.trace(i));
        for (int slot = 0; slot < 20; slot++) {
            all.put("kind(" + slot + ")", (long) x.kind(slot));
            for (int k = 0; k < 4; k++) all.put("number(" + slot + ", " + k + ")", x.number(slot, k));
        }
        for (int tray = 0; tray < 8; tray++) {
            long there = x.copy(tray, 0, tray, 0, 0);
            all.put("copy(" + tray + ", 0, " + tray + ", 0, 0)", there);
            if (there == 0 && tray != NO_TRAY) readTray(all, x, tray);
        }
        return all;
    }

    private static void readTray(Map<String, Long> all, WholeTurns x, int tray) {
        int size = tray == LONGS ? 100 : tray == EMPTY ? 0 : tray < 2 ? 8 : 4;
        if (tray == MIXED) readOneByOne(all, x, size);
        for (int i = 0; i < size && tray != MIXED; i += 4) readWindow(all, x, tray, i);
        all.put("TRAY " + tray + ": its LANE", x.set(tray, 0, 1L << 40 | 200));
        all.put("TRAY " + tray + ": its size", (long) x.drop(tray));
    }

    private static String itemName(int tray, int i) {
        return "TRAY " + tray + ": ITEM " + i;
    }

    /** Four ITEMS that are all even, or all odd, come by a FOUR; if they are not, all four read as what is refused. */
    private static void readWindow(Map<String, Long> all, WholeTurns x, int tray, int i) {
        long taken = x.take(0, tray, i);
        for (int k = 0; k < 4; k++) all.put(itemName(tray, i + k), taken < 0 ? taken : x.number(0, k));
    }

    /** Each ITEM comes four times into another TRAY, to be read as a FOUR. */
    private static void readOneByOne(Map<String, Long> all, WholeTurns x, int size) {
        x.tray(NO_TRAY, 2, 4);
        for (int i = 0; i < size; i++) {
            for (int k = 0; k < 4; k++) x.copy(MIXED, i, NO_TRAY, k, 1);
            long taken = x.take(0, NO_TRAY, 0);
            all.put(itemName(MIXED, i), taken < 0 ? taken : x.number(0, 0));
        }
        x.drop(NO_TRAY);
    }
}
