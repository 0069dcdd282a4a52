/** Promises 31 to 36: PLANS on SHEETS, SHEETS made, dropped, written, copied. */
public final class SheetsTest {
    private static final int LESS = 100000000;

    public static void main(String[] args) {
        film();
        build();
        buildRefused();
        sheet();
        drop();
        item();
        copy();
        copyRefused();
        Due.end();
    }

    /** What an item holds, seen by the only call that tells: a PLAN built of a SHEET. */
    private static void seen(JarMinutes x, String what, int sheet, int lane, int... due) {
        Due.holds(what + " builds", x.build(sheet, lane, 0) > -LESS);
        for (int hour = 0; hour < 24; hour++) {
            int number = hour < due.length ? due[hour] : 0;
            Due.due(what + " hour " + hour, x.lay(hour, number), number);
        }
    }

    private static void film() {
        JarMinutes x = new JarMinutes();
        Due.due("31: nothing there", x.film(0, 1, 0), JarMinutes.NULL);
        for (int lane = 0; lane < 3; lane++) {
            x.sheet(lane, lane, 24);
            Due.plan(x, "0+5,1-2,23-1");
            Due.due("31: film", x.film(lane, lane, 0), 24);
            x.plan();
            Due.due("31: seen again", x.build(lane, lane, 0), -15);
            Due.due("31: hour 0", x.lay(0, 0), 5);
            Due.due("31: hour 1", x.lay(1, 0), -2);
            Due.due("31: hour 23", x.lay(23, 0), -1);
            Due.due("31: another lane", x.film(lane, (lane + 1) % 3, 0), JarMinutes.CAST);
        }
        Due.due("31: from 1 on", x.film(0, 0, 1), JarMinutes.INDEX);
        Due.due("31: from -1 on", x.film(0, 0, -1), JarMinutes.INDEX);
        Due.due("31: from far on", x.film(0, 0, Integer.MAX_VALUE), JarMinutes.INDEX);
        Due.due("31: refused", x.film(-1, 0, 0), JarMinutes.BAD);
        Due.due("31: refused", x.film(4, 0, 0), JarMinutes.BAD);
        Due.due("31: refused", x.film(0, 3, 0), JarMinutes.BAD);
        Due.due("31: refused", x.film(0, -1, 0), JarMinutes.BAD);
        x.sheet(3, 1, 23);
        Due.due("31: 23 are too few", x.film(3, 1, 0), JarMinutes.INDEX);
    }

    private static void build() {
        JarMinutes x = new JarMinutes();
        Due.town(x, "c0w10,k23w9");
        x.sheet(0, 0, 24);
        x.item(0, 0, 0, 2);
        x.item(0, 0, 1, -1);
        x.item(0, 0, 23, 5);
        Due.plan(x, "7+5");
        Due.due("32: gain", x.build(0, 0, 0), 2 * (10 + 6) - 5 + 5 * 9);
        Due.due("32: in place of the one told", x.lay(7, 0), 0);
        Due.due("32: late", x.late(24), 6);
        x.item(0, 0, 0, 0);
        x.item(0, 0, 23, -2);
        Due.due("32: below 0", x.build(0, 0, 0), -15);
    }

    private static void buildRefused() {
        JarMinutes x = new JarMinutes();
        Due.due("32: nothing there", x.build(0, 1, 0), JarMinutes.NULL - LESS);
        Due.due("32: refused", x.build(-1, 1, 0), JarMinutes.BAD - LESS);
        Due.due("32: refused", x.build(4, 1, 0), JarMinutes.BAD - LESS);
        Due.due("32: refused", x.build(0, 3, 0), JarMinutes.BAD - LESS);
        Due.due("32: refused", x.build(0, -1, 0), JarMinutes.BAD - LESS);
        x.sheet(0, 2, 24);
        x.lay(3, 4);
        Due.due("32: another lane", x.build(0, 1, 0), JarMinutes.CAST - LESS);
        Due.due("32: from 1 on", x.build(0, 2, 1), JarMinutes.INDEX - LESS);
        Due.due("32: from -1 on", x.build(0, 2, -1), JarMinutes.INDEX - LESS);
        Due.due("32: from far on", x.build(0, 2, Integer.MAX_VALUE), JarMinutes.INDEX - LESS);
        for (long v : new long[] {6, -3, 1L << 32, Long.MIN_VALUE, 1L << 40 | 3}) {
            x.item(0, 2, 23, v);
            x.item(0, 2, 0, 5);
            Due.due("32: no number", x.build(0, 2, 0), JarMinutes.NOT - LESS);
            Due.due("32: the plan stays", x.late(24), 4);
            Due.due("32: the plan stays", x.late(3), 0);
        }
        x.sheet(1, 1, 23);
        Due.due("32: 23 are too few", x.build(1, 1, 0), JarMinutes.INDEX - LESS);
    }

    private static void sheet() {
        JarMinutes x = new JarMinutes();
        int[][] bad = {{-1, 0, 1}, {4, 0, 1}, {0, -1, 1}, {0, 3, 1}, {0, 0, 25}, {4, 0, -1}, {0, 3, -1}, {0, 0, Integer.MAX_VALUE}};
        for (int[] b : bad) {
            Due.due("33: refused", x.sheet(b[0], b[1], b[2]), JarMinutes.BAD);
        }
        Due.due("33: below 0", x.sheet(0, 0, -1), JarMinutes.SIZE);
        Due.due("33: below 0", x.sheet(0, 0, Integer.MIN_VALUE), JarMinutes.SIZE);
        Due.due("33: nothing came", x.drop(0), JarMinutes.NULL);
        Due.due("33: an empty row", x.sheet(0, 2, 0), 0);
        Due.due("33: it has no item", x.item(0, 2, 0, 1), JarMinutes.INDEX);
        Due.due("33: a row", x.sheet(0, 1, 24), 24);
        x.item(0, 1, 0, 4);
        x.item(0, 1, 23, 3);
        seen(x, "33: written", 0, 1, 4, 0, 0, 0, 0, 0, 0, 0, 0, 0, 0, 0, 0, 0, 0, 0, 0, 0, 0, 0, 0, 0, 0, 3);
        Due.due("33: refused, the row stays", x.sheet(0, 1, -1), JarMinutes.SIZE);
        Due.due("33: refused, the row stays", x.sheet(0, 1, 25), JarMinutes.BAD);
        seen(x, "33: written still", 0, 1, 4, 0, 0, 0, 0, 0, 0, 0, 0, 0, 0, 0, 0, 0, 0, 0, 0, 0, 0, 0, 0, 0, 0, 3);
        Due.due("33: a new row", x.sheet(0, 1, 24), 24);
        seen(x, "33: of 0", 0, 1);
        Due.due("33: of another lane", x.sheet(0, 0, 3), 3);
        Due.due("33: of another lane", x.item(0, 1, 0, 1), JarMinutes.CAST);
    }

    private static void drop() {
        JarMinutes x = new JarMinutes();
        Due.due("34: refused", x.drop(-1), JarMinutes.BAD);
        Due.due("34: refused", x.drop(4), JarMinutes.BAD);
        x.sheet(3, 0, 7);
        x.sheet(2, 1, 0);
        Due.due("34: seven", x.drop(3), 7);
        Due.due("34: nothing there", x.drop(3), JarMinutes.NULL);
        Due.due("34: nothing there", x.item(3, 0, 0, 0), JarMinutes.NULL);
        Due.due("34: an empty row", x.drop(2), 0);
        Due.due("34: nothing there", x.drop(2), JarMinutes.NULL);
    }

    private static void item() {
        JarMinutes x = new JarMinutes();
        Due.due("35: nothing there", x.item(0, 1, 0, 1), JarMinutes.NULL);
        int[][] bad = {{-1, 1, 0}, {4, 1, 0}, {0, -1, 0}, {0, 3, 0}};
        for (int[] b : bad) {
            Due.due("35: refused", x.item(b[0], b[1], b[2], 1), JarMinutes.BAD);
        }
        for (int lane = 0; lane < 3; lane++) {
            x.sheet(lane, lane, 24);
        }
        Due.due("35: another lane", x.item(0, 1, 99, 1), JarMinutes.CAST);
        for (int i : new int[] {-1, 24, Integer.MAX_VALUE, Integer.MIN_VALUE}) {
            Due.due("35: index", x.item(0, 0, i, 1), JarMinutes.INDEX);
        }
        Due.due("35: a byte", x.item(0, 0, 0, 256 + 254), 1);
        Due.due("35: a byte", x.item(0, 0, 1, -256 + 3), 1);
        seen(x, "35: bytes", 0, 0, -2, 3);
        Due.due("35: a byte with its sign", x.item(0, 0, 2, 128), 1);
        Due.due("35: -128 is no number", x.build(0, 0, 0), JarMinutes.NOT - LESS);
        Due.due("35: an int", x.item(1, 1, 0, (1L << 32) - 1), 1);
        Due.due("35: an int", x.item(1, 1, 23, 7L << 32 | 4), 1);
        seen(x, "35: ints", 1, 1, -1, 0, 0, 0, 0, 0, 0, 0, 0, 0, 0, 0, 0, 0, 0, 0, 0, 0, 0, 0, 0, 0, 0, 4);
        Due.due("35: an int keeps 256", x.item(1, 1, 0, 256), 1);
        Due.due("35: 256 is no number", x.build(1, 1, 0), JarMinutes.NOT - LESS);
        Due.due("35: a long", x.item(2, 2, 0, 1L << 32), 1);
        Due.due("35: a long is no number", x.build(2, 2, 0), JarMinutes.NOT - LESS);
        Due.due("35: a long", x.item(2, 2, 0, -2), 1);
        seen(x, "35: longs", 2, 2, -2);
    }

    private static void copy() {
        JarMinutes x = new JarMinutes();
        x.sheet(0, 1, 24);
        x.sheet(1, 1, 24);
        for (int i = 0; i < 5; i++) {
            x.item(0, 1, i, i + 1);
        }
        Due.due("36: to another", x.copy(0, 0, 1, 19, 5), 5);
        seen(x, "36: to another", 1, 1, 0, 0, 0, 0, 0, 0, 0, 0, 0, 0, 0, 0, 0, 0, 0, 0, 0, 0, 0, 1, 2, 3, 4, 5);
        Due.due("36: on itself, up", x.copy(0, 0, 0, 2, 5), 5);
        seen(x, "36: on itself, up", 0, 1, 1, 2, 1, 2, 3, 4, 5);
        Due.due("36: on itself, down", x.copy(0, 2, 0, 1, 5), 5);
        seen(x, "36: on itself, down", 0, 1, 1, 1, 2, 3, 4, 5, 5);
        Due.due("36: none", x.copy(0, 24, 1, 24, 0), 0);
        Due.due("36: all", x.copy(1, 0, 0, 0, 24), 24);
        seen(x, "36: all", 0, 1, 0, 0, 0, 0, 0, 0, 0, 0, 0, 0, 0, 0, 0, 0, 0, 0, 0, 0, 0, 1, 2, 3, 4, 5);
        x.sheet(2, 2, 1);
        x.sheet(3, 2, 24);
        x.item(2, 2, 0, 1L << 35);
        Due.due("36: longs", x.copy(2, 0, 3, 0, 1), 1);
        Due.due("36: wholly", x.build(3, 2, 0), JarMinutes.NOT - LESS);
    }

    private static void copyRefused() {
        JarMinutes x = new JarMinutes();
        Due.due("36: refused", x.copy(-1, 0, 0, 0, 0), JarMinutes.BAD);
        Due.due("36: refused", x.copy(0, 0, 4, 0, 0), JarMinutes.BAD);
        x.sheet(0, 1, 5);
        Due.due("36: nothing there", x.copy(0, 0, 1, 0, 0), JarMinutes.NULL);
        Due.due("36: nothing there", x.copy(1, 0, 0, 0, 0), JarMinutes.NULL);
        x.sheet(1, 2, 5);
        Due.due("36: unlike lanes", x.copy(0, -1, 1, 0, -1), JarMinutes.CAST);
        x.sheet(1, 1, 4);
        int[][] index = {{0, 0, -1}, {-1, 0, 1}, {0, -1, 1}, {5, 0, 1}, {0, 4, 1}, {1, 0, 5}, {0, 0, 5}, {0, 1, 4}, {-1, 0, 0}, {6, 0, 0},
            {0, -1, 0}, {0, 5, 0}, {0, 0, Integer.MAX_VALUE}, {Integer.MAX_VALUE, 0, Integer.MAX_VALUE}, {1, 1, Integer.MIN_VALUE},
            {Integer.MAX_VALUE, 0, 1}, {0, Integer.MIN_VALUE, 1}};
        for (int[] b : index) {
            Due.due("36: index", x.copy(0, b[0], 1, b[1], b[2]), JarMinutes.INDEX);
        }
        Due.due("36: at the ends", x.copy(0, 5, 1, 4, 0), 0);
        Due.due("36: at the ends", x.copy(0, 1, 1, 0, 4), 4);
    }
}
