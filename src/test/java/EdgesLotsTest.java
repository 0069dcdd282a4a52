/** Promises 25 to 28, each sentence that names an edge: DAYS by LOTS, THE DRAW of 31 bits, IMAGES. */
public final class EdgesLotsTest {
    private static final int LESS = Edges.LESS;
    /** What THE DRAW by 65536 is for 24 HOURS, 1 at first: the C standard's rand() of seed 1. */
    private static final int[] RAND = {16838, 5758, 10113, 17515, 31051, 5627, 23010, 7419, 16212, 4086, 2749, 12767, 9084, 12060, 32225, 17543,
        25089, 21183, 25137, 25566, 26966, 4978, 20495, 10311};

    public static void main(String[] args) {
        lotsNumbers();
        lotsFull();
        firstDraws();
        aDayTakesTwentyFourDraws();
        thirtyOneBits();
        lateByNothingAtLeast();
        byWhatTheJarHasAtMost();
        trainsOfTheNextHour();
        noHourBehindTheLast();
        notLawfulAllAreNothing();
        theDayIsDone();
        gainsTogether();
        planStays();
        seedNumbers();
        restoreNone();
        imageOfNobody();
        imageOfAFullTown();
        imageIsNoTwin();
        daysCanBeRestored();
        sheetsAndTapeStay();
        Due.end();
    }

    private static int next(int draw) {
        return (int) Math.floorMod(draw * 1103515245L + 12345L, 1L << 31);
    }

    private static int drawn(int draw) {
        return draw / 65536 % 8 - 2;
    }

    /** The numbers of a DAY by LOTS, each seen by a CLERK who is there alone for its HOUR. */
    private static int[] row(int seed, Edges.Told told) {
        int[] row = new int[24];
        for (int hour = 0; hour < 24; hour++) {
            JarMinutes x = new JarMinutes();
            told.to(x);
            x.seed(seed);
            x.person(0, hour, 1);
            for (int h = 0; h < 24; h++) {
                x.loss(h, h == hour ? 1 : 0);
            }
            row[hour] = x.lots(1);
        }
        return row;
    }

    // Promise 25: lots

    private static void lotsNumbers() {
        Edges.number("25: n DAYS", x -> {
            Edges.rich(x);
            x.set(0, 0);
            x.set(1, 0);
            x.set(2, 0);
        }, 1, 30, (x, v) -> x.lots(v), v -> 0, JarMinutes.BAD - LESS);
        JarMinutes x = new JarMinutes();
        x.lots(30);
        Due.due("25: thirty DAYS", x.is(6), 30);
        x.lots(1);
        Due.due("25: one more", x.is(6), 31);
    }

    private static void days(JarMinutes x, int n) {
        for (int left = n; left > 0; left -= 30) {
            x.spend(Math.min(left, 30));
        }
    }

    private static void lotsFull() {
        for (int n : new int[] {1, 2, 29, 30}) {
            JarMinutes x = new JarMinutes();
            days(x, 9999 - n);
            x.set(0, 0);
            Due.due("25: up to 9999 by " + n, x.lots(n), 0);
            Due.due("25: so many", x.is(6), 9999);
            Edges.refusedLate("25: FULL: 10000 by " + n, o -> {
                days(o, 10000 - n);
                o.seed(99);
            }, o -> o.lots(n), JarMinutes.FULL - LESS);
        }
        Edges.Told full = o -> days(o, 9999);
        Edges.refusedLate("25: FULL: 9999 were", full, o -> o.lots(1), JarMinutes.FULL - LESS);
        Edges.refusedLate("25: BAD ahead of FULL: 0", full, o -> o.lots(0), JarMinutes.BAD - LESS);
        Edges.refusedLate("25: BAD ahead of FULL: 31", full, o -> o.lots(31), JarMinutes.BAD - LESS);
    }

    private static void firstDraws() {
        int[] row = row(1, x -> x.set(0, 99));
        int late = 0;
        for (int hour = 0; hour < 24; hour++) {
            int number = RAND[hour] % 8 - 2;
            Due.due("25: the number of HOUR " + hour + ", 1 at first", row[hour], late + number < 0 ? 0 : number);
            late += row[hour];
        }
        int[] own = row(1, x -> {
            x.set(0, 99);
            x.seed(7);
        });
        Due.holds("25: THE DRAW is told", java.util.Arrays.equals(row, own));
    }

    private static void aDayTakesTwentyFourDraws() {
        JarMinutes x = new JarMinutes();
        int draw = 1;
        for (int day = 0; day < 10; day++) {
            x.lots(1);
            for (int hour = 0; hour < 24; hour++) {
                draw = next(draw);
            }
            Due.due("25: THE DRAW behind DAY " + day, x.seed(draw), draw);
        }
    }

    private static void thirtyOneBits() {
        int[] seeds = {0, 1, 2, Integer.MAX_VALUE, Integer.MAX_VALUE - 1, 1 << 30, (1 << 30) - 1, 65535, 65536, 0x55555555, 0x2AAAAAAA};
        for (int seed : seeds) {
            java.math.BigInteger draw = java.math.BigInteger.valueOf(seed);
            int[] row = row(seed, x -> x.set(0, 99));
            int late = 0;
            for (int hour = 0; hour < 24; hour++) {
                draw = draw.multiply(java.math.BigInteger.valueOf(1103515245)).add(java.math.BigInteger.valueOf(12345)).mod(java.math.BigInteger.ONE.shiftLeft(31));
                int number = draw.shiftRight(16).intValue() % 8 - 2;
                Due.due("25: HOUR " + hour + " of seed " + seed, row[hour], late + number < 0 || late + number > 99 ? 0 : number);
                late += row[hour];
            }
            JarMinutes x = new JarMinutes();
            x.seed(seed);
            x.lots(1);
            Due.due("26: THE DRAW is of 31 bits, seed " + seed, x.seed(1), draw.intValue());
        }
    }

    /** A seed by which the first HOURS draw these numbers. */
    private static int seedOf(int... numbers) {
        for (int seed = 0; seed < 10000000; seed++) {
            int draw = seed;
            boolean so = true;
            for (int i = 0; i < numbers.length && so; i++) {
                draw = next(draw);
                so = drawn(draw) == numbers[i];
            }
            if (so) {
                return seed;
            }
        }
        Due.holds("no seed draws " + java.util.Arrays.toString(numbers), false);
        return 0;
    }

    private static void first(String what, int[] row, int... due) {
        for (int hour = 0; hour < due.length; hour++) {
            Due.due(what + ", HOUR " + hour, row[hour], due[hour]);
        }
    }

    private static void lateByNothingAtLeast() {
        Edges.Told jar = x -> x.set(0, 50);
        first("25: -1 of 0", row(seedOf(-1, 1), jar), 0, 1);
        first("25: -2 of 0", row(seedOf(-2, -2, 2), jar), 0, 0, 2);
        first("25: -1 of 1", row(seedOf(1, -1, -1), jar), 1, -1, 0);
        first("25: -2 of 1", row(seedOf(1, -2, -1), jar), 1, 0, -1);
        first("25: -2 of 2", row(seedOf(2, -2), jar), 2, -2);
        first("25: each number may be drawn", row(seedOf(5, 4, 3), jar), 5, 4, 3);
        first("25: 0 is drawn", row(seedOf(0, 2, 0), jar), 0, 2, 0);
    }

    private static void byWhatTheJarHasAtMost() {
        first("25: 5 of 5", row(seedOf(5, 1, -1), x -> x.set(0, 5)), 5, 0, -1);
        first("25: 5 of 4", row(seedOf(5, 4, 1), x -> x.set(0, 4)), 0, 4, 0);
        first("25: 1 of 0", row(seedOf(1, -1, 2), x -> x.set(0, 0)), 0, 0, 0);
        first("25: 3 and 2 of 5", row(seedOf(3, 3, 2), x -> x.set(0, 5)), 3, 0, 2);
        int[] none = row(77, x -> x.set(0, 0));
        for (int hour = 0; hour < 24; hour++) {
            Due.due("25: an empty JAR, HOUR " + hour, none[hour], 0);
        }
    }

    private static void trainsOfTheNextHour() {
        first("25: 3 of a TRAIN that waits 3", row(seedOf(3, 1), x -> x.train(1, 3)), 3, 1);
        first("25: 4 of a TRAIN that waits 3", row(seedOf(4, 1), x -> x.train(1, 3)), 0, 1);
        first("25: a TRAIN of the HOUR itself binds not", row(seedOf(4, 1), x -> x.train(0, 0)), 4, 1);
        first("25: that of the HOUR behind the next binds not yet", row(seedOf(3, -1), x -> x.train(2, 2)), 3, -1);
        first("25: of two the one that waits least", row(seedOf(3, 1), x -> {
            x.train(1, 3);
            x.train(1, 2);
        }), 0, 1);
        first("25: in any order", row(seedOf(3, 1), x -> {
            x.train(1, 2);
            x.train(1, 3);
        }), 0, 1);
        first("25: all six count", row(seedOf(3, 1), x -> {
            for (int i = 0; i < 5; i++) {
                x.train(23, 99);
            }
            x.train(1, 2);
        }), 0, 1);
    }

    private static void noHourBehindTheLast() {
        int seen = 0;
        for (int seed = 0; seed < 40; seed++) {
            int[] free = row(seed, x -> x.set(0, 99));
            int[] bound = row(seed, x -> {
                x.set(0, 99);
                x.train(0, 0);
            });
            seen += free[23] > 0 ? 1 : 0;
            Due.due("25: no HOUR is behind the last one, seed " + seed, bound[23], free[23]);
        }
        Due.holds("25: some were laid there", seen > 5);
    }

    private static void notLawfulAllAreNothing() {
        int seed = seedOf(3, 1);
        Edges.Told told = x -> {
            x.train(1, 3);
            x.train(2, 2);
        };
        first("25: 0 in place of 1 misses a TRAIN: all are 0", row(seed, told), 0, 0, 0, 0, 0, 0, 0, 0, 0, 0, 0, 0, 0, 0, 0, 0, 0, 0, 0, 0, 0, 0, 0, 0);
        JarMinutes x = new JarMinutes();
        told.to(x);
        x.person(2, 12, 99);
        x.seed(seed);
        Due.due("25: GAIN 0", x.lots(1), 0);
        Due.due("25: THE JAR has as much", x.is(0), 11);
        Due.due("25: the DAY is done", x.is(6), 1);
        int draw = seed;
        for (int hour = 0; hour < 24; hour++) {
            draw = next(draw);
        }
        Due.due("25: THE DRAW went on", x.seed(0), draw);
        int[] lawful = row(seedOf(3, -1), told);
        first("25: taken back in time: as drawn", lawful, 3, -1);
    }

    private static void theDayIsDone() {
        int seed = seedOf(5, 5, 5);
        JarMinutes x = new JarMinutes();
        x.set(0, 99);
        x.seed(seed);
        x.lots(1);
        int[] row = row(seed, o -> o.set(0, 99));
        int late = 0;
        for (int number : row) {
            late += number;
        }
        Due.due("25: THE JAR has less", x.is(0), 99 - late);
        JarMinutes y = new JarMinutes();
        y.set(0, 99);
        y.set(1, 1);
        y.set(2, 1);
        y.set(3, 20);
        y.seed(seed);
        y.lots(1);
        Due.due("25: LEAK and DUE behind it", y.is(0), Math.min(99, 99 - late - 1 + 20));
        Due.holds("25: not so few were laid", late > 25);
    }

    private static void gainsTogether() {
        JarMinutes one = new JarMinutes();
        JarMinutes many = new JarMinutes();
        for (JarMinutes x : new JarMinutes[] {one, many}) {
            Due.town(x, "k12w99,k0w50");
            x.set(0, 99);
            x.set(2, 1);
            x.set(3, 20);
        }
        int together = 0;
        int days = 0;
        for (int day = 0; day < 30; day++) {
            int gain = one.lots(1);
            days += gain > 0 ? 1 : 0;
            together += gain;
            Due.due("25: HAPPINESS of all", one.is(7), together);
        }
        Due.holds("25: each DAY gained", days == 30);
        Due.due("25: GAINS of thirty together", many.lots(30), together);
        for (int what = 0; what < 8; what++) {
            Due.due("25: is " + what, many.is(what), one.is(what));
        }
        Due.due("25: THE DRAW", many.seed(0), one.seed(0));
    }

    private static void planStays() {
        JarMinutes x = new JarMinutes();
        for (int hour = 0; hour < 24; hour++) {
            x.lay(hour, 5);
        }
        x.lots(30);
        for (int hour = 0; hour < 24; hour++) {
            Due.due("25: the PLAN told stays", x.lay(hour, 0), 5);
        }
    }

    // Promise 26: seed

    private static void seedNumbers() {
        for (int v : new int[] {0, 1, 65536, Integer.MAX_VALUE}) {
            JarMinutes x = new JarMinutes();
            Due.due("26: 1 at first", x.seed(v), 1);
            Due.due("26: what it was", x.seed(5), v);
        }
        Edges.refusedBelow("26: seed", Edges::rich, 0, (x, v) -> x.seed(v), JarMinutes.BAD);
    }

    // Promises 27 and 28: image, restore

    private static void restoreNone() {
        Edges.refused("28: NONE", Edges::nothing, x -> x.restore(), JarMinutes.NONE);
        Edges.refused("28: NONE, whatever was told", x -> {
            x.person(0, 1, 2);
            x.lots(3);
            x.sheet(0, 1, 24);
        }, x -> x.restore(), JarMinutes.NONE);
        JarMinutes x = new JarMinutes();
        Due.due("28: NONE", x.restore(), JarMinutes.NONE);
        Due.due("27: image", x.image(), 1);
        Due.due("28: there is one", x.restore(), 1);
        Due.due("28: there is one still", x.restore(), 1);
    }

    private static void imageOfNobody() {
        JarMinutes x = new JarMinutes();
        x.image();
        full(x);
        Due.due("28: to nobody", x.restore(), 1);
        int[] empty = {11, 0, 0, 1, 0, 0, 0, 0};
        for (int what = 0; what < 8; what++) {
            Due.due("28: as it was at first, " + what, x.is(what), empty[what]);
        }
        Due.due("28: nobody is told", x.told(0, 0), JarMinutes.BAD);
        Due.due("28: no TRAIN goes", x.strike(), JarMinutes.NONE);
        Due.due("28: THE DRAW", x.seed(1), 1);
        for (int hour = 0; hour < 24; hour++) {
            Due.due("28: LOSS", x.loss(hour, 5), 5);
            Due.due("28: the PLAN", x.lay(hour, 0), 0);
        }
    }

    private static void imageOfAFullTown() {
        JarMinutes x = new JarMinutes();
        full(x);
        x.image();
        JarMinutes same = new JarMinutes();
        full(same);
        same.image();
        Due.town(x, "c1");
        while (x.strike() > 0) {
            x.lay(0, 0);
        }
        x.seed(5);
        x.plan();
        x.set(0, 50);
        x.set(3, 9);
        Due.due("28: to a full town", x.restore(), 1);
        Due.holds("28: as it was then", Seen.of(x).equals(Seen.of(same)));
    }

    /** Eight PEOPLE, six TRAINS, no number as at first. */
    private static void full(JarMinutes x) {
        for (int i = 0; i < 8; i++) {
            x.person(i % 4, 3 * i, 90 + i);
            x.may(i, i % 2);
        }
        for (int i = 0; i < 6; i++) {
            x.train(4 * i + 3, i);
        }
        for (int hour = 0; hour < 24; hour++) {
            x.loss(hour, hour);
            x.lay(hour, hour % 8 - 2);
        }
        x.set(0, 77);
        x.set(1, 6);
        x.set(2, 5);
        x.set(3, 4);
        x.seed(99);
        x.lots(7);
    }

    private static void imageIsNoTwin() {
        JarMinutes x = new JarMinutes();
        Due.town(x, "c5w9");
        x.train(7, 2);
        x.lay(5, 1);
        x.day();
        x.lay(5, 0);
        x.image();
        for (int times = 0; times < 2; times++) {
            x.day();
            x.may(0, 0);
            x.lay(5, 5);
            x.loss(5, 99);
            x.strike();
            x.train(9, 9);
            x.set(0, 30);
            Due.due("19: a DAY in vain", x.day(), 0);
            x.may(0, 1);
            Due.due("19: a DAY that will not have been", x.day(), 45);
            x.person(1, 2, 3);
            Due.due("28: restore", x.restore(), 1);
            Due.due("28: he may act", x.told(0, 3), 1);
            Due.due("28: one is there", x.is(4), 1);
            Due.due("28: the PLAN", x.lay(5, 3), 0);
            Due.due("28: LOSS", x.loss(5, 5), 5);
            Due.due("28: the TRAIN waits as it did", x.missed(), 1);
            x.lay(5, 0);
            x.lay(7, 3);
            Due.due("28: it goes when it did", x.missed(), 0);
            Due.due("28: THE JAR", x.is(0), 10);
            Due.due("28: DAYS", x.is(6), 1);
            Due.due("28: HAPPINESS", x.is(7), 9);
        }
        x.person(3, 3, 3);
        Due.due("27: the later IMAGE", x.image(), 1);
        Due.town(x, "k1");
        x.restore();
        Due.due("28: all is as it was at the later one", x.is(4), 2);
    }

    private static void daysCanBeRestored() {
        JarMinutes x = new JarMinutes();
        days(x, 9998);
        x.image();
        Due.due("19: the 9999th DAY", x.day(), 0);
        Due.due("19: FULL", x.day(), JarMinutes.FULL - LESS);
        x.restore();
        Due.due("28: DAYS are as many as then", x.is(6), 9998);
        Due.due("25: one more is done", x.lots(1), x.is(7));
        Due.due("25: FULL again", x.lots(1), JarMinutes.FULL - LESS);
    }

    private static void sheetsAndTapeStay() {
        JarMinutes x = new JarMinutes();
        Due.typed(x, "8+");
        Due.written(x, 0, 1, 1, 2, 3);
        x.image();
        Due.due("10: behind it", x.type('5', 1), 3);
        x.sheet(0, 2, 9);
        x.sheet(1, 0, 4);
        x.restore();
        Due.due("28: THE TAPE is as it is", x.plan(), 1);
        Due.due("28: that was told behind the IMAGE", x.lay(8, 0), 5);
        Due.due("28: a SHEET is as it is", x.drop(0), 9);
        Due.due("28: another one too", x.drop(1), 4);
        x.restore();
        Due.due("28: THE TAPE is none of it", x.type('x', 1), 1);
        Due.due("28: SHEETS are none of it", x.drop(0), JarMinutes.NULL);
    }
}
