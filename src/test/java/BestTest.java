/** Promises 20 to 22: BEST and END PLANS, DAYS by them, SHARES. */
public final class BestTest {
    private static final int LESS = 100000000;

    public static void main(String[] args) {
        nothingToGain();
        oneClerk();
        trainsBind();
        likeOnes();
        fullJar();
        spend();
        spendFull();
        share();
        refused();
        Due.end();
    }

    private static void row(JarMinutes x, String what, int end, int gain, int... row) {
        Due.due(what + ": gain", x.best(end, -1), gain);
        for (int hour = 0; hour < 24; hour++) {
            Due.due(what + ": hour " + hour, x.best(end, hour), hour < row.length ? row[hour] : 0);
        }
    }

    private static void nothingToGain() {
        JarMinutes x = new JarMinutes();
        row(x, "20: nobody", 0, 0);
        row(x, "20: nobody, end", 1, 0);
        x.loss(4, 0);
        row(x, "20: minutes that cost nothing are taken, if laid ahead: nobody lays first", 0, 0);
    }

    private static void oneClerk() {
        JarMinutes x = new JarMinutes();
        Due.town(x, "c2w10");
        row(x, "20: five of the jar", 0, 50, 0, 0, 5);
        row(x, "20: taken back at once", 1, 25, 0, 0, 5, -2, -2, -1);
        x.set(0, 3);
        row(x, "20: three are there", 0, 30, 0, 0, 3);
        row(x, "20: three are there, end", 1, 15, 0, 0, 3, -2, -1);
        x.set(0, 0);
        row(x, "20: none is there", 0, 0);
        x.set(0, 11);
        x.loss(3, 12);
        x.loss(23, 4);
        row(x, "20: where it costs least", 1, 27, 0, 0, 5, 0, -2, -1, 0, 0, 0, 0, 0, 0, 0, 0, 0, 0, 0, 0, 0, 0, 0, 0, 0, -2);
        x.may(0, 0);
        row(x, "20: who may not act", 0, 0);
    }

    private static void trainsBind() {
        JarMinutes x = new JarMinutes();
        Due.town(x, "c2w10");
        x.train(3, 4);
        row(x, "20: four catch it", 0, 40, 0, 0, 4);
        x.train(5, 1);
        row(x, "20: the second one: laid for ten, back for five", 0, 25, 0, 0, 4, -2, -1);
        x.train(2, 0);
        x.train(3, 0);
        row(x, "20: no minute is caught", 0, 0);
    }

    private static void likeOnes() {
        JarMinutes x = new JarMinutes();
        Due.town(x, "c2w5");
        row(x, "20: 25 by all five, taking back gains nothing", 0, 25, 0, 0, 5);
        row(x, "20: end: of like ones the first", 1, 0);
        Due.town(x, "l1w5");
        x.set(0, 1);
        row(x, "20: of like ones the first takes out ahead", 0, 5, 0, 0, 1);
        x.loss(1, 0);
        row(x, "20: a minute that costs nothing between two", 0, 10, 1, -1, 1);
        Due.town(x, "c2w5,c5w5");
        row(x, "20: laid, taken and laid for like GAIN: the least numbers stand first", 0, 5, 0, 0, 0, 0, 0, 1);
    }

    private static void fullJar() {
        JarMinutes x = new JarMinutes();
        x.set(0, 99);
        Due.town(x, "k12w99");
        for (int hour = 0; hour < 24; hour++) {
            x.loss(hour, 99);
        }
        row(x, "20: all 99 of the jar", 0, 8331, 0, 0, 0, 5, 5, 5, 5, 5, 5, 5, 5, 5, 5, 5, 5, 5, 5, 5, 5, 5, 5, 5, 4);
        Due.due("21: all 99 of the jar", x.spend(1), 8331);
        Due.due("21: it is empty", x.is(0), 0);
    }

    private static void spend() {
        JarMinutes x = new JarMinutes();
        Due.town(x, "c2w10");
        Due.plan(x, "7+1");
        Due.due("21: one day", x.spend(1), 50);
        Due.due("21: the jar", x.is(0), 6);
        Due.due("21: two days as the jar is then", x.spend(2), 60);
        Due.due("21: the jar", x.is(0), 0);
        Due.due("21: days", x.is(6), 3);
        Due.due("21: happiness", x.is(7), 110);
        Due.due("21: the plan stays", x.lay(7, 1), 1);
        Due.due("21: the plan stays", x.late(24), 1);
        x.set(2, 2);
        x.set(3, 4);
        Due.due("21: owed on days 4, 6", x.spend(3), 40);
        Due.due("21: owed 4 again", x.is(0), 4);
        Due.due("21: thirty", x.spend(30), 15 * 40);
    }

    private static void spendFull() {
        JarMinutes x = new JarMinutes();
        for (int i = 0; i < 332; i++) {
            x.spend(30);
        }
        Due.due("21: 9989", x.spend(29), 0);
        Due.due("21: 11 would pass it", x.spend(11), JarMinutes.FULL - LESS);
        Due.due("25: 11 would pass it", x.lots(11), JarMinutes.FULL - LESS);
        Due.due("21: none was done", x.is(6), 9989);
        Due.due("21: 10 do not", x.spend(10), 0);
        Due.due("21: 9999", x.is(6), 9999);
    }

    private static void share() {
        JarMinutes x = new JarMinutes();
        Due.due("22: nobody", x.share(0), JarMinutes.BAD);
        Due.town(x, "c2w10,c2w4,c9w7-");
        x.set(0, 5);
        Due.due("22: the first", x.share(0), 50);
        Due.due("22: the second", x.share(1), 20);
        Due.due("22: who may not act", x.share(2), 0);
        x.may(2, 1);
        Due.due("22: back for 5 a minute, laid anew", x.share(2), 10);
        x.set(0, 0);
        Due.due("22: none is there", x.share(0), 0);
        Due.due("22: refused", x.share(3), JarMinutes.BAD);
        Due.due("22: refused", x.share(-1), JarMinutes.BAD);
        Due.due("22: refused", x.share(8), JarMinutes.BAD);
        Due.due("22: all may act as told still", x.told(0, 3), 1);
    }

    private static void refused() {
        JarMinutes x = new JarMinutes();
        int[][] bad = {{-1, 0}, {2, 0}, {0, -2}, {0, 24}, {1, -2}, {1, 24}};
        for (int[] b : bad) {
            Due.due("20: refused", x.best(b[0], b[1]), JarMinutes.BAD - LESS);
        }
        for (int n : new int[] {0, -1, 31, Integer.MIN_VALUE, Integer.MAX_VALUE}) {
            Due.due("21: refused", x.spend(n), JarMinutes.BAD - LESS);
        }
        Due.due("21: no day was done", x.is(6), 0);
    }
}
