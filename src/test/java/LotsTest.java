/** Promises 25 to 28: LOTS, THE DRAW, IMAGES. */
public final class LotsTest {
    private static final int LESS = 100000000;

    public static void main(String[] args) {
        oneDay();
        manyBounds();
        manyDays();
        full();
        notLawful();
        seed();
        refused();
        image();
        Due.end();
    }

    private static int next(int draw) {
        return (int) (Math.floorMod(draw * 1103515245L + 12345L, 1L << 31));
    }

    /** THE DRAW after n HOURS. */
    private static int after(int draw, int n) {
        for (int i = 0; i < n; i++) {
            draw = next(draw);
        }
        return draw;
    }

    /** Hours as they are drawn without a bound, to be counted by hand. */
    private static int drawn(int draw) {
        return draw / 65536 % 8 - 2;
    }

    private static void oneDay() {
        JarMinutes x = new JarMinutes();
        x.set(0, 99);
        Due.town(x, "k12w99,c3w50");
        Due.plan(x, "5+1");
        int draw = 1;
        int late = 0;
        int gain = 0;
        for (int hour = 0; hour < 24; hour++) {
            draw = next(draw);
            int number = drawn(draw);
            if (late + number < 0 || late + number > 99) {
                number = 0;
            }
            late += number;
            int worth = 99 - 3 * Math.abs(hour - 12) + (hour == 3 ? 50 : 0);
            gain += number < 0 ? 5 * number : number * worth;
        }
        Due.due("25: one day", x.lots(1), gain);
        Due.due("25: the jar", x.is(0), 99 - late);
        Due.due("25: happiness", x.is(7), gain);
        Due.due("25: days", x.is(6), 1);
        Due.due("25: the plan stays", x.late(24), 1);
        Due.due("25: the plan stays", x.lay(5, 1), 1);
        Due.due("26: the draw", x.seed(1), draw);
    }

    /** Days of many draws, jars and trains, each drawn once more here. */
    private static void manyBounds() {
        int fallen = 0;
        for (int seed = 0; seed < 120; seed++) {
            int jar = new int[] {0, 1, 3, 11}[seed % 4];
            JarMinutes x = new JarMinutes();
            x.set(0, jar);
            x.seed(seed * 9973);
            Due.town(x, "k12w60,p3w40");
            int[] waits = new int[25];
            java.util.Arrays.fill(waits, 99);
            for (int hour = seed % 5; seed % 3 != 0 && hour < 24; hour += 11) {
                waits[hour] = hour % 7;
                x.train(hour, hour % 7);
            }
            JarMinutes judge = new JarMinutes();
            judge.set(0, jar);
            Due.town(judge, "k12w60,p3w40");
            int draw = seed * 9973;
            int late = 0;
            boolean caught = true;
            for (int hour = 0; hour < 24; hour++) {
                caught &= late <= waits[hour];
                draw = next(draw);
                int behind = late + drawn(draw);
                if (behind >= 0 && behind <= jar && (hour == 23 || behind <= waits[hour + 1])) {
                    judge.lay(hour, drawn(draw));
                    late = behind;
                }
            }
            fallen += caught ? 0 : 1;
            Due.due("25: draw " + seed, x.lots(1), caught ? judge.gain() : 0);
            Due.due("25: the jar of draw " + seed, x.is(0), jar - (caught ? late : 0));
            Due.due("26: the draw behind it", x.seed(0), draw);
        }
        Due.holds("25: some were not lawful, some were " + fallen, fallen > 4 && fallen < 100);
    }

    private static void full() {
        JarMinutes x = new JarMinutes();
        for (int i = 0; i < 333; i++) {
            x.lots(30);
        }
        int draw = x.seed(5);
        Due.due("26: behind 9990 days", draw, after(1, 9990 * 24));
        Due.due("25: ten would pass 9999", x.lots(10), JarMinutes.FULL - LESS);
        Due.due("25: nothing changes", x.seed(5), 5);
        Due.due("25: nothing changes", x.is(6), 9990);
        Due.due("25: nine do not", x.lots(9), 0);
        Due.due("25: 9999", x.is(6), 9999);
    }

    private static void manyDays() {
        JarMinutes one = new JarMinutes();
        JarMinutes many = new JarMinutes();
        for (JarMinutes x : new JarMinutes[] {one, many}) {
            x.set(1, 3);
            x.set(2, 2);
            x.set(3, 9);
            x.train(4, 2);
            x.train(20, 5);
            x.seed(12345);
            Due.town(x, "k12w99,c3w50,p0w40");
        }
        int together = 0;
        for (int i = 0; i < 30; i++) {
            together += one.lots(1);
        }
        Due.due("25: thirty days", many.lots(30), together);
        for (int what = 0; what < 8; what++) {
            Due.due("25: is " + what, many.is(what), one.is(what));
        }
        Due.due("26: the draw goes on", many.seed(0), after(12345, 30 * 24));
    }

    private static void notLawful() {
        boolean seen = false;
        for (int seed = 0; seed < 400 && !seen; seed++) {
            // a train at 1 lets 3 stand, the next one at 2 lets none: a 0 in place of a number misses it
            int first = drawn(next(seed));
            int second = drawn(after(seed, 2));
            if (first < 1 || first > 3 || first + second == 0) {
                continue;
            }
            seen = true;
            JarMinutes x = new JarMinutes();
            Due.town(x, "c0w10,c5w10,c20w10");
            x.train(1, 3);
            x.train(2, 0);
            x.seed(seed);
            Due.due("25: all are 0", x.lots(1), 0);
            Due.due("25: the jar stays", x.is(0), 11);
            Due.due("25: a day", x.is(6), 1);
            Due.due("26: the draw", x.seed(0), after(seed, 24));
        }
        Due.holds("25: such a draw was found", seen);
        JarMinutes x = new JarMinutes();
        x.set(0, 0);
        Due.due("25: an empty jar", x.lots(30), 0);
        Due.due("25: an empty jar", x.is(0), 0);
    }

    private static void seed() {
        JarMinutes x = new JarMinutes();
        Due.due("26: first", x.seed(Integer.MAX_VALUE), 1);
        Due.due("26: refused", x.seed(-1), JarMinutes.BAD);
        Due.due("26: refused", x.seed(Integer.MIN_VALUE), JarMinutes.BAD);
        Due.due("26: then", x.seed(0), Integer.MAX_VALUE);
        Due.due("26: 0 too", x.seed(5), 0);
        x.seed(Integer.MAX_VALUE);
        x.lots(1);
        Due.due("26: of 31 bits", x.seed(5), after(Integer.MAX_VALUE, 24));
    }

    private static void refused() {
        JarMinutes x = new JarMinutes();
        for (int n : new int[] {0, -1, 31, Integer.MIN_VALUE, Integer.MAX_VALUE}) {
            Due.due("25: refused", x.lots(n), JarMinutes.BAD - LESS);
        }
        Due.due("25: nothing changes", x.is(6), 0);
        Due.due("25: nothing changes", x.seed(1), 1);
    }

    private static void image() {
        JarMinutes x = new JarMinutes();
        Due.due("28: none", x.restore(), JarMinutes.NONE);
        Due.town(x, "c8w10,p9w9-");
        Due.plan(x, "8+3,9-1");
        x.train(10, 5);
        x.set(1, 9);
        x.set(2, 8);
        x.set(3, 7);
        x.loss(9, 2);
        x.seed(77);
        Due.due("27: a day ahead", x.day(), 28);
        Due.due("27: image", x.image(), 1);
        change(x);
        for (int times = 0; times < 2; times++) {
            Due.due("28: restore", x.restore(), 1);
            int[] due = {9, 9, 8, 7, 2, 1, 1, 28};
            for (int what = 0; what < 8; what++) {
                Due.due("28: is " + what, x.is(what), due[what]);
            }
            Due.due("28: told", x.told(0, 1), 8);
            Due.due("28: told", x.told(1, 0), 3);
            Due.due("28: told", x.told(1, 3), 0);
            Due.due("28: loss", x.loss(9, 2), 2);
            Due.due("28: loss", x.loss(10, 5), 5);
            Due.due("28: plan", x.gain(), 28);
            Due.due("28: plan", x.late(24), 2);
            x.lay(8, 5);
            x.lay(9, 1);
            Due.due("28: train", x.missed(), 1);
            Due.due("28: draw", x.seed(3), 77);
            Due.plan(x, "8+5");
            Due.due("28: train waits 5", x.missed(), 0);
            Due.plan(x, "8+5,9+1");
            Due.due("28: train waits 5", x.missed(), 1);
            change(x);
        }
        Due.typed(x, "c9");
        x.sheet(0, 1, 5);
        Due.due("27: another image", x.image(), 1);
        Due.due("27: the tape stays", x.type(' ', 1), 3);
        x.sheet(0, 2, 7);
        Due.due("28: restore", x.restore(), 1);
        Due.due("28: the tape is none of it", x.type(' ', 1), 4);
        Due.due("28: sheets are none of it", x.drop(0), 7);
        Due.due("28: the later one", x.told(0, 1), 23);
    }

    private static void change(JarMinutes x) {
        Due.town(x, "l23,l23,l23");
        Due.plan(x, "1+1");
        x.strike();
        x.strike();
        x.train(2, 0);
        x.train(2, 0);
        for (int what = 0; what < 4; what++) {
            x.set(what, 20);
        }
        x.loss(9, 50);
        x.loss(10, 50);
        x.lots(3);
        x.spend(2);
    }
}
