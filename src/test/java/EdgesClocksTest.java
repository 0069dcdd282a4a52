/** Promises 29 and 30, each sentence that names an edge: ROWS of CLOCKS, what is SURE. */
public final class EdgesClocksTest {
    private static final long ALL = 282429536481L;
    private static final int INT = 1;

    public static void main(String[] args) {
        clocksNumbers();
        clocksRefusedInTurn();
        clocksIndex();
        clocksNotAnHour();
        sureNumbers();
        sureRefusedInTurn();
        allRows();
        lateAtTheFirstHour();
        lateAtTheEnd();
        lateBetween();
        lateNeverSo();
        toldTwice();
        jarAndTrainsCountForNothing();
        sureOfEachNumber();
        sureNone();
        sureOfEachHour();
        eightClocks();
        Due.end();
    }

    /** A SHEET 0 of ints: pairs of an HOUR and how LATE. */
    private static JarMinutes told(long... pairs) {
        JarMinutes x = new JarMinutes();
        Due.written(x, 0, INT, pairs);
        return x;
    }

    private static void rows(String what, long due, long... pairs) {
        Due.due("29: " + what, told(pairs).clocks(0, INT, 0, pairs.length / 2), due);
    }

    private static long power(int n) {
        return n == 0 ? 1 : 3 * power(n - 1);
    }

    /** Four SHEETS that can be CLOCKS: 0 of bytes, 1 of ints, 2 of longs, 3 of ints. */
    private static void sheets(JarMinutes x) {
        int[] lanes = {0, 1, 2, 1};
        for (int sheet = 0; sheet < 4; sheet++) {
            x.sheet(sheet, lanes[sheet], 24);
        }
    }

    // Promise 29: refusals

    private static void clocksNumbers() {
        Edges.number("29: SHEET", x -> {
            sheets(x);
            x.sheet(0, 1, 24);
        }, 0, 3, (x, v) -> x.clocks(v, 1, 0, 1), v -> ALL, JarMinutes.BAD);
        Edges.refusedBelow("29: LANE", EdgesClocksTest::sheets, 0, (x, v) -> x.clocks(1, v, 0, 1), JarMinutes.BAD);
        Edges.refusedAbove("29: LANE", EdgesClocksTest::sheets, 2, (x, v) -> x.clocks(1, v, 0, 1), JarMinutes.BAD);
        for (int lane = 0; lane < 3; lane++) {
            JarMinutes x = new JarMinutes();
            sheets(x);
            Due.due("29: LANE " + lane, x.clocks(lane, lane, 0, 1), ALL);
        }
        Edges.number("29: n", EdgesClocksTest::sheets, 1, 8, (x, v) -> x.clocks(1, 1, 0, v), v -> ALL, JarMinutes.BAD);
    }

    private static void clocksRefusedInTurn() {
        Edges.refused("29: NULL", Edges::nothing, x -> x.clocks(0, 1, 0, 1), JarMinutes.NULL);
        Edges.refused("29: BAD ahead of NULL: n 0", Edges::nothing, x -> x.clocks(0, 1, 0, 0), JarMinutes.BAD);
        Edges.refused("29: BAD ahead of NULL: n 9", Edges::nothing, x -> x.clocks(0, 1, 0, 9), JarMinutes.BAD);
        Edges.refused("29: BAD ahead of NULL: LANE", Edges::nothing, x -> x.clocks(0, 3, 0, 1), JarMinutes.BAD);
        Edges.refused("29: NULL ahead of INDEX", Edges::nothing, x -> x.clocks(0, 1, -1, 1), JarMinutes.NULL);
        Edges.refused("29: BAD ahead of CAST", EdgesClocksTest::sheets, x -> x.clocks(1, 2, 0, 9), JarMinutes.BAD);
        Edges.refused("29: CAST ahead of INDEX", EdgesClocksTest::sheets, x -> x.clocks(1, 2, 24, 1), JarMinutes.CAST);
        Edges.refused("29: BAD ahead of INDEX", EdgesClocksTest::sheets, x -> x.clocks(1, 1, -1, 0), JarMinutes.BAD);
        Edges.Told wrongHour = x -> Due.written(x, 0, INT, 25, 0);
        Edges.refused("29: CAST ahead of NOT", wrongHour, x -> x.clocks(0, 0, 0, 1), JarMinutes.CAST);
        Edges.refused("29: INDEX ahead of NOT", wrongHour, x -> x.clocks(0, 1, 0, 2), JarMinutes.INDEX);
        Edges.refused("29: NOT", wrongHour, x -> x.clocks(0, 1, 0, 1), JarMinutes.NOT);
        int[] lanes = {0, 1, 2, 1};
        for (int sheet = 0; sheet < 4; sheet++) {
            for (int lane = 0; lane < 3; lane++) {
                int of = sheet;
                int as = lane;
                if (lane != lanes[sheet]) {
                    Edges.refused("29: CAST: of SHEET " + sheet + " LANE " + lane, EdgesClocksTest::sheets, x -> x.clocks(of, as, 0, 1), JarMinutes.CAST);
                }
            }
        }
    }

    private static void clocksIndex() {
        for (int n = 1; n <= 8; n++) {
            int pairs = n;
            Edges.Told exact = x -> x.sheet(0, INT, 2 * pairs);
            Edges.number("29: from, of " + 2 * n + " items", exact, 0, 0, (x, v) -> x.clocks(0, INT, v, pairs), v -> ALL, JarMinutes.INDEX);
            Edges.Told wide = x -> x.sheet(0, INT, 24);
            Edges.number("29: from, of 24 items for " + n, wide, 0, 24 - 2 * n, (x, v) -> x.clocks(0, INT, v, pairs), v -> ALL, JarMinutes.INDEX);
            Edges.refused("29: one item is missing", x -> x.sheet(0, INT, 2 * pairs - 1), x -> x.clocks(0, INT, 0, pairs), JarMinutes.INDEX);
        }
        Edges.refused("29: an empty row", x -> x.sheet(0, INT, 0), x -> x.clocks(0, INT, 0, 1), JarMinutes.INDEX);
    }

    private static void clocksNotAnHour() {
        for (int pair = 0; pair < 8; pair++) {
            for (long hour : new long[] {-1, 25, 100, Integer.MIN_VALUE, Integer.MAX_VALUE}) {
                int at = pair;
                Edges.Told told = x -> {
                    x.sheet(0, INT, 24);
                    x.item(0, INT, 2 + 2 * at, hour);
                };
                Edges.refused("29: NOT: " + hour + " as " + pair, told, x -> x.clocks(0, INT, 2, 8), JarMinutes.NOT);
                JarMinutes x = new JarMinutes();
                told.to(x);
                Due.due("29: it stands behind those that are looked at", x.clocks(0, INT, 2, Math.max(pair, 1)), pair == 0 ? JarMinutes.NOT : ALL);
                Due.due("29: it stands ahead of those that are looked at", x.clocks(0, INT, 4 + 2 * pair, 1), ALL);
            }
        }
        for (long hour : new long[] {1L << 32, 1L << 32 | 5, -1L << 32, Long.MIN_VALUE, Long.MAX_VALUE}) {
            JarMinutes x = new JarMinutes();
            Due.written(x, 0, 2, hour, 0);
            Due.due("29: NOT: a long " + hour, x.clocks(0, 2, 0, 1), JarMinutes.NOT);
            Due.due("30: NOT: a long " + hour, x.sure(0, 0, 2, 0, 1), JarMinutes.NOT);
        }
        JarMinutes x = new JarMinutes();
        Due.written(x, 0, 0, 255, 0, 256 + 24, 7);
        Due.due("29: NOT: a byte -1", x.clocks(0, 0, 0, 1), JarMinutes.NOT);
        Due.due("29: a byte's lowest bits are 24", x.sure(0, 0, 0, 2, 1), JarMinutes.NONE);
        rows("HOUR 0 is one", ALL, 0, 0);
        rows("HOUR 24 is one", 1, 24, 48);
    }

    // Promise 30: refusals

    private static void sureNumbers() {
        Edges.number("30: HOUR", x -> Due.written(x, 0, INT, 24, 48), 0, 23, (x, v) -> x.sure(v, 0, INT, 0, 1), v -> 2, JarMinutes.BAD);
        Edges.number("30: SHEET", x -> {
            for (int sheet = 0; sheet < 4; sheet++) {
                Due.written(x, sheet, INT, 24, 0);
            }
        }, 0, 3, (x, v) -> x.sure(5, v, INT, 0, 1), v -> 0, JarMinutes.BAD);
        Edges.refusedBelow("30: LANE", EdgesClocksTest::sheets, 0, (x, v) -> x.sure(5, 1, v, 0, 1), JarMinutes.BAD);
        Edges.refusedAbove("30: LANE", EdgesClocksTest::sheets, 2, (x, v) -> x.sure(5, 1, v, 0, 1), JarMinutes.BAD);
        Edges.number("30: n", x -> Due.written(x, 0, INT, 24, 0, 24, 0, 24, 0, 24, 0, 24, 0, 24, 0, 24, 0, 24, 0, 24, 0), 1, 8,
            (x, v) -> x.sure(5, 0, INT, 0, v), v -> 0, JarMinutes.BAD);
        Edges.number("30: from", x -> Due.written(x, 0, INT, 0, 0, 0, 0), 0, 2, (x, v) -> x.sure(5, 0, INT, v, 1), v -> JarMinutes.NONE, JarMinutes.INDEX);
    }

    private static void sureRefusedInTurn() {
        Edges.refused("30: NULL", Edges::nothing, x -> x.sure(0, 0, 1, 0, 1), JarMinutes.NULL);
        Edges.refused("30: BAD ahead of NULL: HOUR 24", Edges::nothing, x -> x.sure(24, 0, 1, 0, 1), JarMinutes.BAD);
        Edges.refused("30: BAD ahead of NULL: HOUR -1", Edges::nothing, x -> x.sure(-1, 0, 1, 0, 1), JarMinutes.BAD);
        Edges.refused("30: BAD ahead of NULL: n 9", Edges::nothing, x -> x.sure(0, 0, 1, 0, 9), JarMinutes.BAD);
        Edges.refused("30: NULL ahead of INDEX", Edges::nothing, x -> x.sure(0, 3, 1, 99, 1), JarMinutes.NULL);
        Edges.refused("30: BAD ahead of CAST: HOUR", EdgesClocksTest::sheets, x -> x.sure(24, 1, 2, 0, 1), JarMinutes.BAD);
        Edges.refused("30: CAST", EdgesClocksTest::sheets, x -> x.sure(0, 1, 2, 0, 1), JarMinutes.CAST);
        Edges.refused("30: CAST ahead of INDEX", EdgesClocksTest::sheets, x -> x.sure(0, 1, 0, -1, 1), JarMinutes.CAST);
        Edges.refused("30: INDEX", EdgesClocksTest::sheets, x -> x.sure(0, 1, 1, 23, 1), JarMinutes.INDEX);
        Edges.Told wrongHour = x -> Due.written(x, 0, INT, 25, 0);
        Edges.refused("30: BAD ahead of NOT: HOUR", wrongHour, x -> x.sure(24, 0, 1, 0, 1), JarMinutes.BAD);
        Edges.refused("30: INDEX ahead of NOT", wrongHour, x -> x.sure(0, 0, 1, 1, 1), JarMinutes.INDEX);
        Edges.refused("30: NOT", wrongHour, x -> x.sure(0, 0, 1, 0, 1), JarMinutes.NOT);
        Edges.Told noRow = x -> Due.written(x, 0, INT, 0, 1, 25, 0);
        Edges.refused("30: NOT ahead of NONE", noRow, x -> x.sure(0, 0, 1, 0, 2), JarMinutes.NOT);
        Edges.refused("30: NONE: there is no such ROW", noRow, x -> x.sure(0, 0, 1, 0, 1), JarMinutes.NONE);
        Edges.refused("30: NONE: not the same in all", x -> Due.written(x, 0, INT, 0, 0), x -> x.sure(0, 0, 1, 0, 1), JarMinutes.NONE);
    }

    // ROWS

    private static void allRows() {
        Due.due("29: numbers 0 .. 2 of 24 HOURS", ALL, power(24));
        rows("LATE by 0 at HOUR 0: all", ALL, 0, 0);
    }

    private static void lateAtTheFirstHour() {
        rows("LATE by 1 at HOUR 0: none", 0, 0, 1);
        rows("LATE by -1 at HOUR 0: none", 0, 0, -1);
        rows("LATE by 0 at HOUR 1", power(23), 1, 0);
        rows("LATE by 1 at HOUR 1", power(23), 1, 1);
        rows("LATE by 2 at HOUR 1", power(23), 1, 2);
        rows("LATE by 3 at HOUR 1: none", 0, 1, 3);
    }

    private static void lateAtTheEnd() {
        long together = 0;
        for (int late = -2; late <= 50; late++) {
            JarMinutes x = told(24, late);
            long rows = x.clocks(0, INT, 0, 1);
            together += rows;
            Due.due("29: as many ways from below as from above", rows, told(24, 48 - late).clocks(0, INT, 0, 1));
            Due.holds("29: some for each 0 .. 48, " + late, rows > 0 == (late >= 0 && late <= 48));
        }
        Due.due("29: of each lateness at the end together", together, ALL);
        rows("LATE by 0 at the end", 1, 24, 0);
        rows("LATE by 1 at the end", 24, 24, 1);
        rows("LATE by 48 at the end", 1, 24, 48);
        rows("LATE by 47 at the end", 24, 24, 47);
        rows("LATE by 49 at the end", 0, 24, 49);
        rows("LATE by -1 at the end", 0, 24, -1);
        rows("LATE by 2 at the end", 24 + 24 * 23 / 2, 24, 2);
    }

    private static void lateBetween() {
        for (int hour = 1; hour < 24; hour++) {
            rows("LATE by 0 at " + hour, power(24 - hour), hour, 0);
            rows("LATE by the most at " + hour, power(24 - hour), hour, 2 * hour);
            rows("one more at " + hour, 0, hour, 2 * hour + 1);
            rows("LATE by 1 at " + hour, hour * power(24 - hour), hour, 1);
            rows("one less than the most at " + hour, hour * power(24 - hour), hour, 2 * hour - 1);
        }
    }

    private static void lateNeverSo() {
        rows("less LATE than ahead", 0, 5, 4, 6, 3);
        rows("as LATE as ahead", 45 * power(18), 5, 4, 6, 4);
        rows("three more at the next", 0, 5, 4, 6, 7);
        rows("two more at the next", 45 * power(18), 5, 4, 6, 6);
        for (long late : new long[] {1L << 32, 1L << 32 | 3, -1L << 32, Long.MIN_VALUE, Long.MAX_VALUE, 256, 49, -1}) {
            JarMinutes x = new JarMinutes();
            Due.written(x, 0, 2, 5, late, 3, 0);
            Due.due("29: a long " + late + " is no lateness", x.clocks(0, 2, 0, 1), 0);
            Due.due("29: whatever is told behind it", x.clocks(0, 2, 0, 2), 0);
            Due.due("30: a long " + late + " is no lateness", x.sure(5, 0, 2, 0, 1), JarMinutes.NONE);
        }
    }

    private static void toldTwice() {
        rows("told twice alike", 45 * power(19), 5, 4, 5, 4);
        rows("told twice unlike", 0, 5, 4, 5, 3);
        rows("told twice unlike, then once more", 0, 5, 4, 5, 3, 5, 4);
        rows("told thrice, the last is unlike", 0, 5, 4, 5, 4, 5, 3);
        rows("0 told twice alike", power(19), 5, 0, 5, 0);
        rows("never, then 0", 0, 5, -1, 5, 0);
        rows("0, then never", 0, 5, 0, 5, -1);
        rows("-1 told twice", 0, 5, -1, 5, -1);
        rows("-2 told twice", 0, 5, -2, 5, -2);
    }

    private static void jarAndTrainsCountForNothing() {
        JarMinutes x = told(24, 48);
        x.set(0, 0);
        x.train(1, 0);
        x.train(23, 0);
        x.lay(3, -2);
        Due.due("29: JAR, TRAINS count for nothing", x.clocks(0, INT, 0, 1), 1);
        Due.due("30: JAR, TRAINS count for nothing", x.sure(23, 0, INT, 0, 1), 2);
        Due.due("30: nothing is taken out", x.sure(3, 0, INT, 0, 1), 2);
    }

    // SURE

    private static void sureOfEachNumber() {
        for (int hour = 0; hour < 24; hour++) {
            for (int number = 0; number <= 2; number++) {
                JarMinutes x = told(hour, hour, hour + 1, hour + number);
                Due.due("30: " + number + " at " + hour, x.sure(hour, 0, INT, 0, 2), number);
            }
        }
    }

    private static void sureNone() {
        JarMinutes x = told(0, 0, 24, 24, 3, 1, 5, 2, 8, 7);
        Due.due("30: NONE: 0, 1 or 2", x.sure(7, 0, INT, 0, 1), JarMinutes.NONE);
        Due.due("30: NONE: 0 or 1", x.sure(4, 0, INT, 4, 2), JarMinutes.NONE);
        Due.due("30: NONE: 1 or 2", x.sure(6, 0, INT, 6, 2), JarMinutes.NONE);
        JarMinutes y = told(3, 1, 5, 3);
        Due.due("30: NONE: 0, 1 or 2 of two that make 2", y.sure(3, 0, INT, 0, 2), JarMinutes.NONE);
        Due.due("30: NONE: no ROW", told(3, 1, 5, 6).sure(3, 0, INT, 0, 2), JarMinutes.NONE);
        Due.due("30: NONE: no ROW, of an HOUR apart from it", told(3, 1, 5, 6).sure(20, 0, INT, 0, 2), JarMinutes.NONE);
    }

    private static void sureOfEachHour() {
        JarMinutes x = told(6, 0, 12, 12, 18, 18, 19, 19, 24, 24);
        for (int hour = 0; hour < 24; hour++) {
            int due = hour < 6 ? 0 : hour < 12 ? 2 : hour == 18 ? 1 : JarMinutes.NONE;
            Due.due("30: SURE of " + hour, x.sure(hour, 0, INT, 0, 5), due);
        }
        Due.due("29: so many are left", x.clocks(0, INT, 0, 5), 141 * 51);
    }

    private static void eightClocks() {
        JarMinutes x = told(0, 0, 3, 6, 6, 6, 9, 7, 12, 13, 15, 14, 20, 19, 24, 27, 7, 6);
        Due.due("29: eight", x.clocks(0, INT, 0, 8), 1 * 1 * 3 * 1 * 3 * 51 * 1);
        Due.due("30: of eight", x.sure(1, 0, INT, 0, 8), 2);
        Due.due("30: of eight", x.sure(3, 0, INT, 0, 8), 0);
        Due.due("30: of eight", x.sure(23, 0, INT, 0, 8), 2);
        Due.due("30: of eight", x.sure(7, 0, INT, 0, 8), JarMinutes.NONE);
        Due.due("30: the last eight tell more", x.sure(7, 0, INT, 2, 8), JarMinutes.NONE);
        Due.due("30: the last eight tell more", x.sure(6, 0, INT, 2, 8), 0);
    }
}
