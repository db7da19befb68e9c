import java.lang.management.ManagementFactory;

/** All calls of one run live in one room: what a call makes is counted. */
final class RoomRuns {
    private RoomRuns() {
    }

    /** An object takes little room, and its calls take none: all rows are made by the constructor. */
    static void roomOfCalls(Due due) {
        if (!(ManagementFactory.getThreadMXBean() instanceof com.sun.management.ThreadMXBean room)) return;
        WholeTurns warm = dearest(new WholeTurns(), 40);
        long ahead = room.getCurrentThreadAllocatedBytes();
        WholeTurns x = new WholeTurns();
        long made = room.getCurrentThreadAllocatedBytes() - ahead;
        due.holds("an object takes at most 40000 bytes, not " + made, made <= 40000);
        ahead = room.getCurrentThreadAllocatedBytes();
        dearest(x, 40);
        made = room.getCurrentThreadAllocatedBytes() - ahead;
        due.holds("480 calls take at most 4000 bytes, not " + made, made <= 4000);
        due.is("the same answers", x.norm(0), warm.norm(0));
    }

    private static WholeTurns dearest(WholeTurns x, int rounds) {
        Due.put(x, 0, 62001, 3, 5, 7);
        Due.put(x, 1, 4321, 8765, -12345, 777);
        for (int i = 0; i < rounds; i++) {
            x.part(2, 0, 3);
            x.greatest(3, 0, 1, 0);
            x.over(4, 5, 0, 1, 1);
            x.associate(6, 1, 0);
            x.list(7, 150, 2975);
            x.cell(7, 5);
            x.turn(0, 999, 998, 997, 2, 0);
            x.ask(7, 1);
            x.tray(7, 2, 100);
            x.plain(8, 1);
            x.times(9, 7, 7);
        }
        return x;
    }
}
