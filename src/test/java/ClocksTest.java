/** Promises 29 and 30: in how many ways CLOCKS can have been, what is SURE. */
public final class ClocksTest {
    private static final long ALL = 282429536481L;

    public static void main(String[] args) {
        counted();
        sure();
        lanes();
        refused();
        Due.end();
    }

    /** Rows of n numbers 0 .. 2 that make a sum, counted one by one. */
    private static long rows(int n, int sum) {
        if (n == 0) {
            return sum == 0 ? 1 : 0;
        }
        long together = 0;
        for (int number = 0; number <= 2 && number <= sum; number++) {
            together += rows(n - 1, sum - number);
        }
        return together;
    }

    private static long power(int n) {
        long p = 1;
        for (int i = 0; i < n; i++) {
            p *= 3;
        }
        return p;
    }

    private static void counted() {
        JarMinutes x = new JarMinutes();
        x.set(0, 0);
        x.train(3, 0);
        Due.written(x, 0, 1, 0, 0, 5, 3, 5, 3, 12, 9, 24, 20, 5, 4, 24, 48, 0, 1);
        Due.due("29: late 0 at 0", x.clocks(0, 1, 0, 1), ALL);
        Due.due("29: two", x.clocks(0, 1, 0, 2), rows(5, 3) * power(19));
        Due.due("29: told twice alike", x.clocks(0, 1, 0, 3), rows(5, 3) * power(19));
        Due.due("29: four", x.clocks(0, 1, 0, 4), rows(5, 3) * rows(7, 6) * power(12));
        Due.due("29: five", x.clocks(0, 1, 0, 5), rows(5, 3) * rows(7, 6) * rows(12, 11));
        Due.due("29: told twice unlike", x.clocks(0, 1, 0, 6), 0);
        Due.due("29: told twice unlike", x.clocks(0, 1, 4, 4), 0);
        Due.due("29: from 6 on", x.clocks(0, 1, 6, 1), rows(12, 9) * power(12));
        Due.due("29: the most", x.clocks(0, 1, 12, 1), 1);
        Due.due("29: eight", x.clocks(0, 1, 0, 8), 0);
        Due.due("29: late 1 at 0", x.clocks(0, 1, 14, 1), 0);
        x.item(0, 1, 0, 12);
        x.item(0, 1, 1, 9);
        Due.due("29: in any order", x.clocks(0, 1, 0, 2), rows(5, 3) * rows(7, 6) * power(12));
        x.item(0, 1, 1, 2);
        Due.due("29: never less", x.clocks(0, 1, 0, 2), 0);
        for (long late : new long[] {-1, 49, Integer.MAX_VALUE, Integer.MIN_VALUE}) {
            Due.written(x, 1, 1, 24, late);
            Due.due("29: never so late", x.clocks(1, 1, 0, 1), 0);
        }
    }

    private static void sure() {
        JarMinutes x = new JarMinutes();
        Due.written(x, 0, 1, 2, 4, 7, 4, 8, 5, 10, 6, 12, 6, 24, 30);
        int[] due = {2, 2, 0, 0, 0, 0, 0, 1, -4, -4, 0, 0};
        for (int hour = 0; hour < 24; hour++) {
            Due.due("30: sure " + hour, x.sure(hour, 0, 1, 0, 6), hour < due.length ? due[hour] : 2);
        }
        Due.due("30: without the last", x.sure(23, 0, 1, 0, 5), JarMinutes.NONE);
        x.item(0, 1, 3, 3);
        Due.due("30: no such row", x.sure(0, 0, 1, 0, 2), JarMinutes.NONE);
        Due.due("30: no such row", x.sure(23, 0, 1, 0, 6), JarMinutes.NONE);
        Due.written(x, 1, 1, 24, 48);
        Due.due("30: the only row", x.sure(9, 1, 1, 0, 1), 2);
        Due.written(x, 1, 1, 24, 47);
        Due.due("30: 24 rows", x.sure(9, 1, 1, 0, 1), JarMinutes.NONE);
        Due.written(x, 1, 1, 3, 1, 4, 2);
        Due.due("30: not between", x.sure(1, 1, 1, 0, 2), JarMinutes.NONE);
        Due.due("30: one", x.sure(3, 1, 1, 0, 2), 1);
        Due.due("30: from 2 on", x.sure(3, 1, 1, 2, 1), JarMinutes.NONE);
    }

    private static void lanes() {
        JarMinutes x = new JarMinutes();
        Due.written(x, 0, 0, 5, 3, 24, 20);
        Due.written(x, 1, 1, 5, 3, 24, 20);
        Due.written(x, 2, 2, 5, 3, 24, 20);
        for (int lane = 0; lane < 3; lane++) {
            Due.due("29: lane " + lane, x.clocks(lane, lane, 0, 2), rows(5, 3) * rows(19, 17));
            Due.due("30: lane " + lane, x.sure(0, lane, lane, 0, 2), JarMinutes.NONE);
            Due.due("29: another lane", x.clocks(lane, (lane + 1) % 3, 0, 2), JarMinutes.CAST);
            Due.due("30: another lane", x.sure(0, lane, (lane + 1) % 3, 0, 2), JarMinutes.CAST);
        }
        x.item(2, 2, 1, 1L << 32 | 3);
        Due.due("29: late beyond an int", x.clocks(2, 2, 0, 1), 0);
        x.item(2, 2, 0, 1L << 32 | 5);
        Due.due("29: an hour beyond an int", x.clocks(2, 2, 0, 1), JarMinutes.NOT);
        Due.due("30: an hour beyond an int", x.sure(5, 2, 2, 0, 1), JarMinutes.NOT);
        x.item(0, 0, 0, 256 + 5);
        Due.due("29: a byte's lowest bits", x.clocks(0, 0, 0, 2), rows(5, 3) * rows(19, 17));
    }

    private static void refused() {
        JarMinutes x = new JarMinutes();
        Due.due("29: nothing there", x.clocks(0, 1, 0, 1), JarMinutes.NULL);
        Due.due("30: nothing there", x.sure(0, 0, 1, 0, 1), JarMinutes.NULL);
        Due.written(x, 0, 1, 25, 0, -1, 0, 3, 3);
        int[][] bad = {{-1, 1, 0, 1}, {4, 1, 0, 1}, {0, -1, 0, 1}, {0, 3, 0, 1}, {0, 1, 0, 0}, {0, 1, 0, 9}, {0, 1, 0, -1}, {1, 1, 0, 9}};
        for (int[] b : bad) {
            Due.due("29: refused", x.clocks(b[0], b[1], b[2], b[3]), JarMinutes.BAD);
            Due.due("30: refused", x.sure(0, b[0], b[1], b[2], b[3]), JarMinutes.BAD);
        }
        Due.due("30: hour 24", x.sure(24, 0, 1, 4, 1), JarMinutes.BAD);
        Due.due("30: hour -1", x.sure(-1, 1, 1, 4, 1), JarMinutes.BAD);
        int[][] index = {{-1, 1}, {5, 1}, {6, 1}, {0, 4}, {Integer.MAX_VALUE, 1}, {Integer.MIN_VALUE, 8}, {1, 3}};
        for (int[] b : index) {
            Due.due("29: index", x.clocks(0, 1, b[0], b[1]), JarMinutes.INDEX);
            Due.due("30: index", x.sure(0, 0, 1, b[0], b[1]), JarMinutes.INDEX);
        }
        Due.due("29: CAST ahead of INDEX", x.clocks(0, 2, -1, 1), JarMinutes.CAST);
        Due.due("29: 25 is no hour", x.clocks(0, 1, 0, 1), JarMinutes.NOT);
        Due.due("29: -1 is no hour", x.clocks(0, 1, 2, 1), JarMinutes.NOT);
        Due.due("30: 25 is no hour", x.sure(0, 0, 1, 0, 3), JarMinutes.NOT);
        Due.due("29: 3 is one", x.clocks(0, 1, 4, 1), rows(3, 3) * power(21));
        Due.written(x, 1, 1, 3, 1, 3, 2, 25, 0);
        Due.due("29: NOT ahead of no row", x.clocks(1, 1, 0, 3), JarMinutes.NOT);
    }
}
