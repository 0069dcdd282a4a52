/** Promises 31 to 36, each sentence that names an edge: SHEETS that may be missing, their LANES, their items. */
public final class EdgesSheetsTest {
    private static final int LESS = Edges.LESS;
    private static final int BYTE = 0, INT = 1, LONG = 2;

    public static void main(String[] args) {
        filmNumbers();
        filmRefusedInTurn();
        filmTwentyFour();
        buildNumbers();
        buildRefusedInTurn();
        buildNotANumber();
        buildOfEachNumber();
        sheetNumbers();
        sheetBadAheadOfSize();
        sheetIsNew();
        dropNumbers();
        dropNull();
        itemNumbers();
        itemRefusedInTurn();
        itemLowestBits();
        copyNumbers();
        copyRefusedInTurn();
        copyIndex();
        copyOfNone();
        copyAsIfTakenAhead();
        copyOfEachLane();
        Due.end();
    }

    /** Of each LANE a SHEET of 24 items, number and LANE alike; SHEET 3 holds nothing. */
    private static void sheets(JarMinutes x) {
        for (int lane = 0; lane < 3; lane++) {
            x.sheet(lane, lane, 24);
            x.item(lane, lane, lane, 3 + lane % 2);
        }
    }

    private static void allOfInts(JarMinutes x) {
        for (int sheet = 0; sheet < 4; sheet++) {
            x.sheet(sheet, INT, 24);
        }
    }

    /** A call that takes a SHEET, a LANE and a place or more. */
    private interface RowCall {
        long of(JarMinutes x, int sheet, int lane, int from);
    }

    /** The refusals of such a call, of several the first: BAD, NULL, CAST, INDEX. */
    private static void inTurn(String what, RowCall call, int less) {
        Edges.Told nothing = Edges::nothing;
        Edges.Told told = EdgesSheetsTest::sheets;
        for (int sheet : new int[] {-1, 4, Integer.MIN_VALUE, Integer.MAX_VALUE}) {
            Edges.refused(what + ": BAD: SHEET " + sheet, told, x -> call.of(x, sheet, INT, 0), JarMinutes.BAD - less);
            Edges.refused(what + ": BAD: SHEET " + sheet + " ahead of all", nothing, x -> call.of(x, sheet, LONG, -1), JarMinutes.BAD - less);
        }
        for (int lane : new int[] {-1, 3, Integer.MIN_VALUE, Integer.MAX_VALUE}) {
            Edges.refused(what + ": BAD: LANE " + lane, told, x -> call.of(x, 1, lane, 0), JarMinutes.BAD - less);
            Edges.refused(what + ": BAD: LANE " + lane + " ahead of NULL", nothing, x -> call.of(x, 1, lane, 0), JarMinutes.BAD - less);
            Edges.refused(what + ": BAD: LANE " + lane + " ahead of INDEX", told, x -> call.of(x, 1, lane, -1), JarMinutes.BAD - less);
        }
        for (int sheet = 0; sheet < 4; sheet++) {
            int of = sheet;
            Edges.refused(what + ": NULL: SHEET " + sheet, nothing, x -> call.of(x, of, INT, 0), JarMinutes.NULL - less);
        }
        Edges.refused(what + ": NULL ahead of INDEX", told, x -> call.of(x, 3, INT, 24), JarMinutes.NULL - less);
        Edges.refused(what + ": NULL: dropped", x -> {
            sheets(x);
            x.drop(1);
        }, x -> call.of(x, 1, INT, 0), JarMinutes.NULL - less);
        for (int sheet = 0; sheet < 3; sheet++) {
            for (int lane = 0; lane < 3; lane++) {
                int of = sheet;
                int as = lane;
                if (sheet != lane) {
                    Edges.refused(what + ": CAST: LANE " + sheet + " as " + lane, told, x -> call.of(x, of, as, 0), JarMinutes.CAST - less);
                    Edges.refused(what + ": CAST ahead of INDEX", told, x -> call.of(x, of, as, 24), JarMinutes.CAST - less);
                    Edges.refused(what + ": CAST ahead of INDEX, an empty row", x -> x.sheet(of, of, 0), x -> call.of(x, of, as, 0), JarMinutes.CAST - less);
                }
            }
            int of = sheet;
            for (int from : new int[] {-1, 24, Integer.MIN_VALUE, Integer.MAX_VALUE}) {
                Edges.refused(what + ": INDEX: " + from, told, x -> call.of(x, of, of, from), JarMinutes.INDEX - less);
            }
            Edges.refused(what + ": INDEX: an empty row", x -> x.sheet(of, of, 0), x -> call.of(x, of, of, 0), JarMinutes.INDEX - less);
        }
    }

    // Promise 31: film

    private static void filmNumbers() {
        Edges.number("31: SHEET", EdgesSheetsTest::allOfInts, 0, 3, (x, v) -> x.film(v, INT, 0), v -> 24, JarMinutes.BAD);
        for (int lane = 0; lane < 3; lane++) {
            int of = lane;
            Edges.number("31: from", EdgesSheetsTest::sheets, 0, 0, (x, v) -> x.film(of, of, v), v -> 24, JarMinutes.INDEX);
        }
        Edges.refused("31: INDEX: 23 items", x -> x.sheet(0, INT, 23), x -> x.film(0, INT, 0), JarMinutes.INDEX);
        Edges.refused("31: INDEX: from the second on", x -> x.sheet(0, INT, 24), x -> x.film(0, INT, 1), JarMinutes.INDEX);
    }

    private static void filmRefusedInTurn() {
        inTurn("31", (x, sheet, lane, from) -> x.film(sheet, lane, from), 0);
    }

    private static void filmTwentyFour() {
        for (int lane = 0; lane < 3; lane++) {
            JarMinutes x = new JarMinutes();
            x.sheet(lane, lane, 24);
            for (int hour = 0; hour < 24; hour++) {
                x.lay(hour, hour % 8 - 2);
            }
            Due.due("31: film", x.film(lane, lane, 0), 24);
            for (int hour = 0; hour < 24; hour++) {
                Due.due("31: the PLAN stays", x.lay(hour, 0), hour % 8 - 2);
            }
            x.build(lane, lane, 0);
            for (int hour = 0; hour < 24; hour++) {
                Due.due("31: numbers of all HOURS, " + hour, x.lay(hour, 0), hour % 8 - 2);
            }
        }
    }

    // Promise 32: build

    private static void buildNumbers() {
        Edges.number("32: SHEET", EdgesSheetsTest::allOfInts, 0, 3, (x, v) -> x.build(v, INT, 0), v -> 0, JarMinutes.BAD - LESS);
        for (int lane = 0; lane < 3; lane++) {
            int of = lane;
            Edges.number("32: from", EdgesSheetsTest::sheets, 0, 0, (x, v) -> x.build(of, of, v), v -> 0, JarMinutes.INDEX - LESS);
        }
        Edges.refused("32: INDEX: 23 items", x -> x.sheet(0, INT, 23), x -> x.build(0, INT, 0), JarMinutes.INDEX - LESS);
    }

    private static void buildRefusedInTurn() {
        inTurn("32", (x, sheet, lane, from) -> x.build(sheet, lane, from), LESS);
        Edges.Told wrong = x -> {
            x.sheet(0, INT, 24);
            x.item(0, INT, 5, 6);
            x.sheet(1, INT, 23);
            x.item(1, INT, 5, 6);
        };
        Edges.refused("32: CAST ahead of NOT", wrong, x -> x.build(0, LONG, 0), JarMinutes.CAST - LESS);
        Edges.refused("32: INDEX ahead of NOT", wrong, x -> x.build(1, INT, 0), JarMinutes.INDEX - LESS);
        Edges.refused("32: NOT", wrong, x -> x.build(0, INT, 0), JarMinutes.NOT - LESS);
    }

    private static void buildNotANumber() {
        long[] wrong = {6, -3, 7, -4, 127, -128, 1000, Integer.MAX_VALUE, Integer.MIN_VALUE, 1L << 32, (1L << 32) + 5, Long.MAX_VALUE, Long.MIN_VALUE};
        for (int hour : new int[] {0, 1, 22, 23}) {
            for (long v : wrong) {
                for (int lane = 0; lane < 3; lane++) {
                    int of = lane;
                    boolean fits = lane == LONG || lane == INT && v == (int) v || v == (byte) v;
                    Edges.Told told = x -> {
                        Edges.rich(x);
                        x.sheet(of, of, 24);
                        for (int i = 0; i < 24; i++) {
                            x.item(of, of, i, i % 8 - 2);
                        }
                        x.item(of, of, hour, v);
                    };
                    if (fits) {
                        Edges.refused("32: NOT: " + v + " at " + hour, told, x -> x.build(of, of, 0), JarMinutes.NOT - LESS);
                    }
                }
            }
        }
    }

    private static void buildOfEachNumber() {
        for (int lane = 0; lane < 3; lane++) {
            JarMinutes x = new JarMinutes();
            x.sheet(3, lane, 24);
            for (int v = -2; v <= 5; v++) {
                x.item(3, lane, 23, v);
                x.item(3, lane, 0, 3 - v);
                int due = 5 * (Math.min(v, 0) + Math.min(3 - v, 0));
                Due.due("32: GAIN by " + v, x.build(3, lane, 0), due);
                Due.due("32: the last one", x.lay(23, 1), v);
                Due.due("32: the first one", x.lay(0, 1), 3 - v);
                Due.due("32: one between, in place of the one told", x.lay(12, 1), 0);
            }
        }
    }

    // Promise 33: sheet

    private static void sheetNumbers() {
        Edges.number("33: SHEET", Edges::rich, 0, 3, (x, v) -> x.sheet(v, INT, 5), v -> 5, JarMinutes.BAD);
        Edges.number("33: LANE", Edges::rich, 0, 2, (x, v) -> x.sheet(0, v, 5), v -> 5, JarMinutes.BAD);
        Due.due("33: n 0", new JarMinutes().sheet(0, LONG, 0), 0);
        Due.due("33: n 24", new JarMinutes().sheet(0, LONG, 24), 24);
        Edges.refusedAbove("33: n above 24", Edges::rich, 24, (x, v) -> x.sheet(0, INT, v), JarMinutes.BAD);
        Edges.refusedBelow("33: n below 0", Edges::rich, 0, (x, v) -> x.sheet(0, INT, v), JarMinutes.SIZE);
        Edges.refusedBelow("33: n below 0, where nothing was", Edges::rich, 0, (x, v) -> x.sheet(3, INT, v), JarMinutes.SIZE);
    }

    private static void sheetBadAheadOfSize() {
        Edges.refused("33: BAD ahead of SIZE: SHEET", Edges::rich, x -> x.sheet(4, INT, -1), JarMinutes.BAD);
        Edges.refused("33: BAD ahead of SIZE: SHEET", Edges::rich, x -> x.sheet(-1, INT, -1), JarMinutes.BAD);
        Edges.refused("33: BAD ahead of SIZE: LANE", Edges::rich, x -> x.sheet(0, 3, -1), JarMinutes.BAD);
        Edges.refused("33: BAD ahead of SIZE: LANE", Edges::rich, x -> x.sheet(0, -1, -1), JarMinutes.BAD);
    }

    private static void sheetIsNew() {
        for (int lane = 0; lane < 3; lane++) {
            JarMinutes x = new JarMinutes();
            x.sheet(0, lane, 24);
            for (int i = 0; i < 24; i++) {
                x.item(0, lane, i, 3);
            }
            x.sheet(0, lane, 24);
            Due.due("33: the new row can be a PLAN", x.build(0, lane, 0), 0);
            for (int hour = 0; hour < 24; hour++) {
                Due.due("33: of 0 alone", x.lay(hour, 1), 0);
            }
            for (int n = 0; n <= 24; n++) {
                Due.due("33: n", x.sheet(1, lane, n), n);
                Due.due("33: it has no item " + n, x.item(1, lane, n, 1), JarMinutes.INDEX);
                Due.due("33: its last one", x.item(1, lane, n - 1, 1), n == 0 ? JarMinutes.INDEX : 1);
                Due.due("34: how many it had", x.drop(1), n);
            }
        }
    }

    // Promise 34: drop

    private static void dropNumbers() {
        Edges.number("34: SHEET", EdgesSheetsTest::allOfInts, 0, 3, (x, v) -> x.drop(v), v -> 24, JarMinutes.BAD);
        Edges.refusedAbove("34: BAD, where all hold nothing", Edges::nothing, 3, (x, v) -> x.drop(v), JarMinutes.BAD);
        Edges.refusedBelow("34: BAD, where all hold nothing", Edges::nothing, 0, (x, v) -> x.drop(v), JarMinutes.BAD);
    }

    private static void dropNull() {
        for (int sheet = 0; sheet < 4; sheet++) {
            int of = sheet;
            Edges.refused("34: NULL at first", Edges::nothing, x -> x.drop(of), JarMinutes.NULL);
            Edges.refused("34: NULL behind it", x -> {
                allOfInts(x);
                x.drop(of);
            }, x -> x.drop(of), JarMinutes.NULL);
            JarMinutes x = new JarMinutes();
            allOfInts(x);
            x.drop(sheet);
            for (int other = 0; other < 4; other++) {
                Due.due("34: the others stay", x.film(other, INT, 0), other == sheet ? JarMinutes.NULL : 24);
            }
        }
        JarMinutes x = new JarMinutes();
        x.sheet(2, LONG, 0);
        Due.due("34: an empty row is not nothing", x.drop(2), 0);
        Due.due("34: then nothing is", x.drop(2), JarMinutes.NULL);
        Due.due("33: a new one", x.sheet(2, BYTE, 7), 7);
        Due.due("34: it had seven", x.drop(2), 7);
    }

    // Promise 35: item

    private static void itemNumbers() {
        Edges.number("35: SHEET", EdgesSheetsTest::allOfInts, 0, 3, (x, v) -> x.item(v, INT, 5, 1), v -> 1, JarMinutes.BAD);
        for (int lane = 0; lane < 3; lane++) {
            int of = lane;
            Edges.number("35: i of 24", EdgesSheetsTest::sheets, 0, 23, (x, v) -> x.item(of, of, v, 1), v -> 1, JarMinutes.INDEX);
            Edges.number("35: i of one", x -> x.sheet(of, of, 1), 0, 0, (x, v) -> x.item(of, of, v, 1), v -> 1, JarMinutes.INDEX);
        }
    }

    private static void itemRefusedInTurn() {
        inTurn("35", (x, sheet, lane, from) -> x.item(sheet, lane, from, 1), 0);
    }

    /** What an item holds, as far as a PLAN or CLOCKS can tell it. */
    private static void holds(String what, int lane, long v, long as) {
        JarMinutes x = new JarMinutes();
        JarMinutes same = new JarMinutes();
        x.sheet(0, lane, 24);
        same.sheet(0, LONG, 24);
        Due.due(what, x.item(0, lane, 0, v), 1);
        same.item(0, LONG, 0, as);
        Due.due(what + " as an HOUR", x.clocks(0, lane, 0, 1), same.clocks(0, LONG, 0, 1));
        Due.due(what + " as a number", x.build(0, lane, 0), same.build(0, LONG, 0));
        Due.due(what + " as what is LATE", x.late(1), same.late(1));
        Due.due(what + " behind HOUR 24", lateAtEnd(x, lane, v), lateAtEnd(same, LONG, as));
    }

    private static long lateAtEnd(JarMinutes x, int lane, long v) {
        x.item(0, lane, 0, 24);
        x.item(0, lane, 1, v);
        return x.clocks(0, lane, 0, 1);
    }

    private static void itemLowestBits() {
        long[][] bytes = {{127, 127}, {128, -128}, {255, -1}, {256, 0}, {257, 1}, {254, -2}, {-128, -128}, {-129, 127}, {-256, 0}, {-251, 5},
            {1L << 32, 0}, {1L << 63, 0}, {0x0F05, 5}, {24 + 512, 24}, {48 + 256, 48}};
        for (long[] b : bytes) {
            holds("35: a byte of " + b[0], BYTE, b[0], b[1]);
        }
        long[][] ints = {{255, 255}, {Integer.MAX_VALUE, Integer.MAX_VALUE}, {1L << 31, Integer.MIN_VALUE}, {(1L << 32) - 1, -1}, {1L << 32, 0},
            {(1L << 32) + 24, 24}, {(1L << 32) - 2, -2}, {-1L << 32, 0}, {(-1L << 32) + 5, 5}, {Long.MIN_VALUE, 0}, {Long.MAX_VALUE, -1}};
        for (long[] i : ints) {
            holds("35: an int of " + i[0], INT, i[0], i[1]);
        }
        for (long v : new long[] {0, 5, -2, 24, 48, 255, 256, 1L << 32, (1L << 32) + 5, Long.MIN_VALUE, Long.MAX_VALUE, -1}) {
            holds("35: a long of " + v, LONG, v, v);
        }
    }

    // Promise 36: copy

    private static void copyNumbers() {
        Edges.number("36: from", EdgesSheetsTest::allOfInts, 0, 3, (x, v) -> x.copy(v, 0, 1, 0, 2), v -> 2, JarMinutes.BAD);
        Edges.number("36: to", EdgesSheetsTest::allOfInts, 0, 3, (x, v) -> x.copy(1, 0, v, 0, 2), v -> 2, JarMinutes.BAD);
    }

    private static void copyRefusedInTurn() {
        Edges.Told told = EdgesSheetsTest::sheets;
        Edges.refused("36: BAD ahead of NULL: to", Edges::nothing, x -> x.copy(0, 0, 4, 0, 1), JarMinutes.BAD);
        Edges.refused("36: BAD ahead of NULL: from", Edges::nothing, x -> x.copy(-1, 0, 0, 0, 1), JarMinutes.BAD);
        Edges.refused("36: BAD ahead of INDEX", told, x -> x.copy(0, -1, 4, -1, -1), JarMinutes.BAD);
        Edges.refused("36: NULL: both", Edges::nothing, x -> x.copy(0, 0, 1, 0, 1), JarMinutes.NULL);
        Edges.refused("36: NULL: the same", Edges::nothing, x -> x.copy(2, 0, 2, 0, 0), JarMinutes.NULL);
        for (int sheet = 0; sheet < 3; sheet++) {
            int of = sheet;
            Edges.refused("36: NULL: to", told, x -> x.copy(of, 0, 3, 0, 1), JarMinutes.NULL);
            Edges.refused("36: NULL: from", told, x -> x.copy(3, 0, of, 0, 1), JarMinutes.NULL);
            Edges.refused("36: NULL ahead of INDEX", told, x -> x.copy(of, -1, 3, 99, -5), JarMinutes.NULL);
            Edges.refused("36: CAST", told, x -> x.copy(of, 0, (of + 1) % 3, 0, 1), JarMinutes.CAST);
            Edges.refused("36: CAST: of none too", told, x -> x.copy(of, 0, (of + 2) % 3, 0, 0), JarMinutes.CAST);
            Edges.refused("36: CAST ahead of INDEX: i", told, x -> x.copy(of, -1, (of + 1) % 3, 0, 1), JarMinutes.CAST);
            Edges.refused("36: CAST ahead of INDEX: j", told, x -> x.copy(of, 0, (of + 1) % 3, 25, 1), JarMinutes.CAST);
            Edges.refused("36: CAST ahead of INDEX: n", told, x -> x.copy(of, 0, (of + 1) % 3, 0, -1), JarMinutes.CAST);
        }
    }

    /** Two SHEETS of unlike many items. */
    private static void fiveAndThree(JarMinutes x) {
        x.sheet(0, INT, 5);
        x.sheet(1, INT, 3);
        x.item(0, INT, 4, 9);
        x.item(1, INT, 2, 8);
    }

    private static void copyIndex() {
        Edges.Told told = EdgesSheetsTest::fiveAndThree;
        for (int n = 0; n <= 3; n++) {
            int many = n;
            Edges.number("36: i for " + n, told, 0, 5 - n, (x, v) -> x.copy(0, v, 1, 0, many), v -> many, JarMinutes.INDEX);
            Edges.number("36: j for " + n, told, 0, 3 - n, (x, v) -> x.copy(0, 0, 1, v, many), v -> many, JarMinutes.INDEX);
        }
        Edges.number("36: n to the shorter one", told, 0, 3, (x, v) -> x.copy(0, 0, 1, 0, v), v -> v, JarMinutes.INDEX);
        Edges.number("36: n of the shorter one", told, 0, 3, (x, v) -> x.copy(1, 0, 0, 0, v), v -> v, JarMinutes.INDEX);
        Edges.number("36: n on the same", told, 0, 4, (x, v) -> x.copy(0, 1, 0, 0, v), v -> v, JarMinutes.INDEX);
        Edges.number("36: n up the same", told, 0, 4, (x, v) -> x.copy(0, 0, 0, 1, v), v -> v, JarMinutes.INDEX);
        int max = Integer.MAX_VALUE;
        int[][] far = {{max, 0, max}, {0, max, max}, {max, max, max}, {1, 1, max}, {max, max, 2}, {-1, -1, 2}, {Integer.MIN_VALUE, 0, Integer.MIN_VALUE},
            {2, 2, -1}, {Integer.MIN_VALUE, Integer.MIN_VALUE, max}};
        for (int[] f : far) {
            Edges.refused("36: INDEX: far ones", told, x -> x.copy(0, f[0], 1, f[1], f[2]), JarMinutes.INDEX);
        }
    }

    private static void copyOfNone() {
        Edges.Told told = EdgesSheetsTest::fiveAndThree;
        Edges.number("36: i with n 0", told, 0, 5, (x, v) -> x.copy(0, v, 1, 3, 0), v -> 0, JarMinutes.INDEX);
        Edges.number("36: j with n 0", told, 0, 3, (x, v) -> x.copy(0, 5, 1, v, 0), v -> 0, JarMinutes.INDEX);
        Edges.Told empty = x -> {
            x.sheet(0, BYTE, 0);
            x.sheet(1, BYTE, 0);
        };
        Edges.number("36: i of an empty row", empty, 0, 0, (x, v) -> x.copy(0, v, 1, 0, 0), v -> 0, JarMinutes.INDEX);
        Edges.number("36: j of an empty row", empty, 0, 0, (x, v) -> x.copy(0, 0, 1, v, 0), v -> 0, JarMinutes.INDEX);
        Edges.number("36: n of an empty row", empty, 0, 0, (x, v) -> x.copy(0, 0, 1, 0, v), v -> 0, JarMinutes.INDEX);
        // as refused calls are, one of no item is like none
        Edges.refused("36: n 0 changes nothing", Edges::rich, x -> x.copy(1, 3, 1, 7, 0), 0);
    }

    private static int[] taken(JarMinutes x, int sheet, int lane) {
        int[] items = new int[24];
        Due.holds("32: a PLAN of it", x.build(sheet, lane, 0) > -LESS);
        for (int hour = 0; hour < 24; hour++) {
            items[hour] = x.lay(hour, 0);
        }
        return items;
    }

    private static void copyAsIfTakenAhead() {
        for (int i = 0; i <= 24; i += 4) {
            for (int j = 0; j <= 24; j += 3) {
                int n = Math.min(24 - i, 24 - j);
                for (int to = 0; to < 2; to++) {
                    JarMinutes x = new JarMinutes();
                    x.sheet(0, INT, 24);
                    x.sheet(1, INT, 24);
                    for (int k = 0; k < 24; k++) {
                        x.item(0, INT, k, k % 8 - 2);
                        x.item(1, INT, k, k % 5);
                    }
                    Due.due("36: how many", x.copy(0, i, to, j, n), n);
                    int[] items = taken(x, to, INT);
                    for (int k = 0; k < 24; k++) {
                        int due = k >= j && k < j + n ? (k - j + i) % 8 - 2 : to == 0 ? k % 8 - 2 : k % 5;
                        Due.due("36: of " + i + " to " + j + " of SHEET " + to + ", item " + k, items[k], due);
                    }
                }
            }
        }
    }

    private static void copyOfEachLane() {
        for (int lane = 0; lane < 3; lane++) {
            JarMinutes x = new JarMinutes();
            x.sheet(2, lane, 24);
            x.sheet(3, lane, 24);
            x.item(2, lane, 23, -2);
            x.item(3, lane, 0, 5);
            Due.due("36: the last to the first", x.copy(2, 23, 3, 0, 1), 1);
            Due.due("36: it came", taken(x, 3, lane)[0], -2);
            Due.due("36: it stays where it was", taken(x, 2, lane)[23], -2);
            x.item(2, lane, 0, lane == BYTE ? 100 : lane == INT ? 1 << 20 : 1L << 40);
            x.copy(2, 0, 3, 5, 1);
            Due.due("36: as it is, wholly", x.build(3, lane, 0), JarMinutes.NOT - LESS);
        }
    }
}
