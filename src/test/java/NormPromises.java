import java.util.Arrays;

/** Promises 23 to 26: all of a NORM. */
final class NormPromises {
    private NormPromises() {
    }

    static void promise23(Due due) {
        WholeTurns x = Due.with(2, 0, 0, 0);
        int[] counts = countsByWalk();
        for (int n = 1; n <= 150; n++) due.is("many(" + n + ")", x.many(n), counts[n]);
        due.is("many(1000000)", x.many(1000000), 468744);
        due.is("many(999983), a prime number", x.many(999983), 24 * 999984);
        due.is("many(524288), 2 to the 19th", x.many(524288), 24);
        due.is("many(720720)", x.many(720720), 24L * 13 * 6 * 8 * 12 * 14);
        due.is("many(0)", x.many(0), Due.BAD);
        due.is("many(-1)", x.many(-1), Due.BAD);
        due.is("many(1000001)", x.many(1000001), Due.BAD);
        due.is("many(MIN)", x.many(Integer.MIN_VALUE), Due.BAD);
        due.is("many(MAX)", x.many(Integer.MAX_VALUE), Due.BAD);
        due.is("status(), not of many()", x.status(), 1);
    }

    /** How many FOURS there are of each NORM up to 150, one by one. */
    private static int[] countsByWalk() {
        int[] counts = new int[151];
        for (int w = -24; w <= 24; w++) {
            for (int i = -24; i <= 24; i++) {
                for (int j = -24; j <= 24; j++) {
                    for (int k = -24; k <= 24; k++) {
                        int whole = w * w + i * i + j * j + k * k;
                        boolean alike = (w - i & 1) == 0 && (w - j & 1) == 0 && (w - k & 1) == 0;
                        if (alike && whole <= 600) counts[whole / 4]++;
                    }
                }
            }
        }
        return counts;
    }

    static void promise24(Due due) {
        WholeTurns x = Due.with(2, 0, 0, 0);
        due.is("list(1, 1, 0)", x.list(1, 1, 0), 4);
        due.is("status(), not of list()", x.status(), 1);
        due.numbers(x, 1, -2, 0, 0, 0);
        x.list(1, 1, 1);
        due.numbers(x, 1, -1, -1, -1, -1);
        x.list(1, 1, 2);
        due.numbers(x, 1, -1, -1, -1, 1);
        x.list(1, 1, 22);
        due.numbers(x, 1, 1, 1, 1, 1);
        due.is("list(1, 1, 23)", x.list(1, 1, 23), 4);
        due.numbers(x, 1, 2, 0, 0, 0);
        due.is("list(1, 1, 24)", x.list(1, 1, 24), Due.NONE);
        due.is("list(1, 1, -1)", x.list(1, 1, -1), Due.NONE);
        due.is("list(1, 1, MIN)", x.list(1, 1, Integer.MIN_VALUE), Due.NONE);
        due.numbers(x, 1, 2, 0, 0, 0);
        x.norm(9);
        due.is("list(2, 1, 24)", x.list(2, 1, 24), Due.NONE);
        due.is("status(), not of NONE", x.status(), 1);
        due.is("kind(2) was not made", x.kind(2), Due.NULL);
        due.is("list(1, 4, 0)", x.list(1, 4, 0), 0);
        due.is("list(1, 9, 53)", x.list(1, 9, 53), 1);
        due.numbers(x, 1, -3, -3, -3, -3);
        due.is("list(1, 150, 2975)", x.list(1, 150, 2975), 2);
        due.numbers(x, 1, 24, 4, 2, 2);
        due.is("list(1, 150, 2976)", x.list(1, 150, 2976), Due.NONE);
        due.is("list(1, 0, 0)", x.list(1, 0, 0), Due.BAD);
        due.is("list(1, 151, 0)", x.list(1, 151, 0), Due.BAD);
        due.is("list(1, -1, -1)", x.list(1, -1, -1), Due.BAD);
        due.is("list(20, 1, 0)", x.list(20, 1, 0), Due.BAD);
        due.is("list(-1, 1, 99): BAD is first", x.list(-1, 1, 99), Due.BAD);
        for (int n : new int[] {1, 2, 3, 6, 7, 12}) allListed(due, n);
    }

    /** Each is of the NORM and above the one ahead; with as many as many() tells, these are all. */
    private static void allListed(Due due, int n) {
        int count = new WholeTurns().many(n);
        long[] ahead = null;
        WholeTurns x = null;
        for (int i = 0; i < count; i++) {
            if (i % 50 == 0) x = new WholeTurns();
            int kind = x.list(0, n, i);
            due.is("kind(0)", x.kind(0), kind);
            due.is("norm(0)", x.norm(0), n);
            long[] now = {x.number(0, 0), x.number(0, 1), x.number(0, 2), x.number(0, 3)};
            due.holds("list(0, " + n + ", " + i + ") is above the one ahead", ahead == null || Arrays.compare(ahead, now) < 0);
            ahead = now;
        }
        due.is("list(0, " + n + ", " + count + ")", new WholeTurns().list(0, n, count), Due.NONE);
    }

    static void promise25(Due due) {
        WholeTurns x = Due.with(2, 0, 0, 0);
        int[] ways = waysByWalk(200);
        for (int n = 0; n <= 200; n++) due.is("squares(" + n + ")", x.squares(n), ways[n]);
        due.is("squares(1000000)", x.squares(1000000), 24 * 19531);
        due.is("squares(999983), a prime number", x.squares(999983), 8 * 999984);
        due.is("squares(524288), 2 to the 19th", x.squares(524288), 24);
        due.is("squares(-1)", x.squares(-1), Due.BAD);
        due.is("squares(1000001)", x.squares(1000001), Due.BAD);
        due.is("squares(MIN)", x.squares(Integer.MIN_VALUE), Due.BAD);
        due.is("squares(MAX)", x.squares(Integer.MAX_VALUE), Due.BAD);
        due.is("status(), not of squares()", x.status(), 1);
    }

    private static int[] waysByWalk(int end) {
        int[] ways = new int[end + 1];
        ways[0] = 1;
        for (int square = 0; square < 4; square++) {
            int[] more = new int[end + 1];
            for (int n = 0; n <= end; n++) {
                for (int a = -end; a <= end; a++) {
                    if (n + (long) a * a <= end) more[n + a * a] += ways[n];
                }
            }
            ways = more;
        }
        return ways;
    }

    static void promise26(Due due) {
        WholeTurns x = Due.with(2, 0, 0, 0);
        for (int n = 0; n <= 400; n++) due.is("three(" + n + ")", x.three(n), threeByWalk(n));
        for (int n : new int[] {999999, 1000000, 999992, 458752, 983040, 393216, 262144, 786432, 114688}) {
            due.is("three(" + n + ")", x.three(n), threeByWalk(n));
        }
        due.is("three(458752), 4 to the 8th times 7", x.three(458752), 0);
        due.is("three(-1)", x.three(-1), Due.BAD);
        due.is("three(1000001)", x.three(1000001), Due.BAD);
        due.is("three(MIN)", x.three(Integer.MIN_VALUE), Due.BAD);
        due.is("three(MAX)", x.three(Integer.MAX_VALUE), Due.BAD);
        due.is("status(), not of three()", x.status(), 1);
    }

    private static int threeByWalk(int n) {
        for (int a = 0; a * a <= n; a++) {
            for (int b = a; a * a + b * b <= n; b++) {
                int left = n - a * a - b * b;
                int c = (int) Math.round(Math.sqrt(left));
                if (c * c == left) return 1;
            }
        }
        return 0;
    }
}
