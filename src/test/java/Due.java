/** What one test holds against the class: it counts the answers that are not the ones that are due. */
final class Due {
    static final long NONE = -1000000, BAD = -1000001, STATE = -1000002, FULL = -1000003;
    static final long NULL = -1000011, PLACE = -1000012, KIND = -1000013, SIZE = -1000014, STORE = -1000015;
    static final int LONGEST = 200;

    private final String test;
    private int wrong = 0;

    Due(String test) {
        this.test = test;
    }

    void is(String call, long got, long want) {
        if (got == want) return;
        wrong++;
        if (wrong <= LONGEST) System.out.println(test + ": " + call + " answered " + got + ", due is " + want);
    }

    void holds(String what, boolean so) {
        if (so) return;
        wrong++;
        if (wrong <= LONGEST) System.out.println(test + ": not so: " + what);
    }

    boolean isWell() {
        return wrong == 0;
    }

    /** The four numbers of a SLOT. */
    void numbers(WholeTurns x, int slot, long w, long i, long j, long k) {
        is("number(" + slot + ", 0)", x.number(slot, 0), w);
        is("number(" + slot + ", 1)", x.number(slot, 1), i);
        is("number(" + slot + ", 2)", x.number(slot, 2), j);
        is("number(" + slot + ", 3)", x.number(slot, 3), k);
    }

    /** Puts a FOUR into a SLOT by way of TRAY 7: what take() answers. */
    static int put(WholeTurns x, int slot, long w, long i, long j, long k) {
        x.tray(7, 2, 4);
        x.set(7, 0, w);
        x.set(7, 1, i);
        x.set(7, 2, j);
        x.set(7, 3, k);
        return x.take(slot, 7, 0);
    }

    /** An object with one FOUR in SLOT 0, and FINDING 1 as its status. */
    static WholeTurns with(long w, long i, long j, long k) {
        WholeTurns x = new WholeTurns();
        put(x, 0, w, i, j, k);
        x.norm(19);
        return x;
    }
}
