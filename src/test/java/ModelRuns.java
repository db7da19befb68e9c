/** Long runs of calls on the class and on the model at once: each answer, and status() behind each, is the same. */
final class ModelRuns {
    private static final int CALLS = 34;
    private static final int[] WILD = {-1, -2, 20, 8, 100, 101, 1000, 1001, -1000, -1001, 1000000, 1000001, Integer.MAX_VALUE, Integer.MIN_VALUE};

    private final Due due;
    private final WholeTurns x = new WholeTurns();
    private final Model model = new Model();
    private final StringBuilder run = new StringBuilder();
    private long seed;
    private int calls = 0;
    private boolean same = true;

    private ModelRuns(Due due, long seed) {
        this.due = due;
        this.seed = seed * 7919 + 17;
    }

    static void manyRuns(Due due) {
        for (int n = 0; n < 700 && due.isWell(); n++) new ModelRuns(due, n).whole();
    }

    private int below(int end) {
        seed = seed * 6364136223846793005L + 1442695040888963407L;
        return (int) ((seed >>> 33) % end);
    }

    /** Mostly a fit number below an end, now and then any other one. */
    private int fit(int end) {
        return below(40) == 0 ? WILD[below(WILD.length)] : below(end);
    }

    /** Few SLOTS are used much, so that calls meet what others made. */
    private int slot() {
        return below(40) == 0 ? WILD[below(WILD.length)] : below(12) == 0 ? below(20) : below(6);
    }

    private int tray() {
        return below(40) == 0 ? WILD[below(WILD.length)] : below(8) == 0 ? below(8) : below(3);
    }

    private void answer(String call, long got, long want) {
        calls++;
        run.append(call).append('\n');
        if (got == want) return;
        same = false;
        due.is("after\n" + run + "the last call", got, want);
    }

    private void whole() {
        while (calls < 420 && same) {
            int call = below(CALLS + 8);
            if (call >= CALLS) fresh();
            else if (call < 13) held(call);
            else if (call < 21) joined(call);
            else turns(call);
            if (same) answer("status()", x.status(), model.status());
        }
        for (int slot = 0; slot < 20 && same; slot++) {
            for (int k = 0; k < 4 && same; k++) answer("number(" + slot + ", " + k + ")", x.number(slot, k), model.number(slot, k));
        }
    }

    private long number(int size) {
        if (size == 0) return below(9) - 4;
        if (size == 1) return below(41) - 20;
        if (size == 2) return below(2001) - 1000;
        if (size == 3) return below(63400 * 2) - 63400;
        return below(2) == 0 ? Long.MAX_VALUE - below(3) : Long.MIN_VALUE + below(3);
    }

    /** A FOUR by way of a TRAY, mostly one that may be. */
    private void fresh() {
        int size = below(60) == 0 ? 4 : below(8) == 0 ? 3 : below(3);
        int far = below(4);
        int odd = below(2);
        int factor = below(5) == 0 ? 1 + below(6) : 1;
        if (below(6) == 0) tray(0, below(6) == 0 ? below(3) : 2, 4);
        for (int k = 0; k < 4 && same; k++) {
            long v = factor * number(size == 3 && k != far ? 2 : size);
            if ((v & 1) != odd && below(60) != 0) v++;
            answer("set(0, " + k + ", " + v + ")", x.set(0, k, v), model.set(0, k, v));
        }
        int to = slot();
        if (same) answer("take(" + to + ", 0, 0)", x.take(to, 0, 0), model.take(to, 0, 0));
    }

    private void tray(int tray, int lane, int n) {
        answer("tray(" + tray + ", " + lane + ", " + n + ")", x.tray(tray, lane, n), model.tray(tray, lane, n));
    }

    private void held(int call) {
        int s = slot(), t = tray(), u = tray();
        switch (call) {
            case 0: tray(t, fit(3), below(3) == 0 ? fit(101) : 4 + below(4)); break;
            case 1: {
                int i = fit(8);
                long v = number(below(5)) * (below(3) == 0 ? 1000003 : 1);
                answer("set(" + t + ", " + i + ", " + v + ")", x.set(t, i, v), model.set(t, i, v));
                break;
            }
            case 2: {
                int i = fit(4), j = fit(4), n = fit(5);
                answer("copy(" + t + ", " + i + ", " + u + ", " + j + ", " + n + ")", x.copy(t, i, u, j, n), model.copy(t, i, u, j, n));
                break;
            }
            case 3: if (below(4) == 0) answer("drop(" + t + ")", x.drop(t), model.drop(t)); break;
            case 4: {
                int i = fit(4);
                answer("take(" + s + ", " + t + ", " + i + ")", x.take(s, t, i), model.take(s, t, i));
                break;
            }
            case 5: if (below(4) == 0) answer("clear(" + s + ")", x.clear(s), model.clear(s)); break;
            case 6: {
                int k = fit(4);
                answer("number(" + s + ", " + k + ")", x.number(s, k), model.number(s, k));
                break;
            }
            case 7: answer("norm(" + s + ")", x.norm(s), model.norm(s)); break;
            case 8: answer("kind(" + s + ")", x.kind(s), model.kind(s)); break;
            case 9: {
                int k = fit(5);
                answer("is(" + s + ", " + k + ")", x.is(s, k), model.is(s, k));
                break;
            }
            case 10: {
                int k = fit(5);
                answer("as(" + s + ", " + k + ")", x.as(s, k), model.as(s, k));
                break;
            }
            case 11: {
                int what = fit(3);
                answer("ask(" + s + ", " + what + ")", x.ask(s, what), model.ask(s, what));
                break;
            }
            default: {
                int i = fit(5);
                answer("trace(" + i + ")", x.trace(i), model.trace(i));
            }
        }
    }

    private void joined(int call) {
        int to = slot(), p = slot(), q = slot(), side = fit(2);
        String three = "(" + to + ", " + p + ", " + q + ")";
        switch (call) {
            case 13: answer("times" + three, x.times(to, p, q), model.times(to, p, q)); break;
            case 14: answer("sum" + three, x.sum(to, p, q), model.sum(to, p, q)); break;
            case 15: answer("back(" + to + ", " + p + ")", x.back(to, p), model.back(to, p)); break;
            case 16: {
                int rest = slot();
                answer("over(" + to + ", " + rest + ", " + p + ", " + q + ", " + side + ")", x.over(to, rest, p, q, side), model.over(to, rest, p, q, side));
                break;
            }
            case 17: answer("greatest" + three + " to side " + side, x.greatest(to, p, q, side), model.greatest(to, p, q, side)); break;
            case 18: answer("associate(" + to + ", " + p + ", " + side + ")", x.associate(to, p, side), model.associate(to, p, side)); break;
            case 19: answer("plain(" + to + ", " + p + ")", x.plain(to, p), model.plain(to, p)); break;
            default: {
                int i = fit(4);
                answer("part(" + to + ", " + p + ", " + i + ")", x.part(to, p, i), model.part(to, p, i));
            }
        }
    }

    private int upTo(int end) {
        return below(20) == 0 ? WILD[below(WILD.length)] : below(3) == 0 ? below(50) : below(end + 1);
    }

    private void turns(int call) {
        int p = slot(), q = slot(), k = fit(3), what = fit(2);
        switch (call) {
            case 21: {
                int n = upTo(1000000);
                answer("many(" + n + ")", x.many(n), model.many(n));
                break;
            }
            case 22: case 23: {
                int n = upTo(150), i = below(2) == 0 ? fit(24) : below(3000);
                answer("list(" + p + ", " + n + ", " + i + ")", x.list(p, n, i), model.list(p, n, i));
                break;
            }
            case 24: {
                int n = upTo(below(30) == 0 ? 1000000 : 20000);
                answer("squares(" + n + ")", x.squares(n), model.squares(n));
                break;
            }
            case 25: {
                int n = below(3) == 0 ? (8 * below(30) + 7) << 2 * below(6) : upTo(1000000);
                answer("three(" + n + ")", x.three(n), model.three(n));
                break;
            }
            case 26: {
                int row = fit(3);
                answer("table(" + p + ", " + row + ", " + k + ", " + what + ")", x.table(p, row, k, what), model.table(p, row, k, what));
                break;
            }
            case 27: {
                int[] v = {fit(2001) - 1000, fit(20) - 10, fit(4)};
                String call27 = "turn(" + p + ", " + v[0] + ", " + v[1] + ", " + v[2] + ", " + k + ", " + what + ")";
                answer(call27, x.turn(p, v[0], v[1], v[2], k, what), model.turn(p, v, k, what));
                break;
            }
            case 28: answer("order(" + p + ")", x.order(p), model.order(p)); break;
            case 29: answer("axis(" + p + ", " + k + ")", x.axis(p, k), model.axis(p, k)); break;
            case 30: answer("alike(" + p + ", " + q + ")", x.alike(p, q), model.alike(p, q)); break;
            case 31: answer("index(" + p + ")", x.index(p), model.index(p)); break;
            default: {
                int number = fit(6);
                answer("cell(" + p + ", " + number + ")", x.cell(p, number), model.cell(p, number));
            }
        }
    }
}
