/** Promises 6 to 9 and 14: TRAINS, THE JAR's settings, LOSSES, and how it is. */
public final class SettingsTest {
    private static final int LESS = 100000000;

    public static void main(String[] args) {
        trainsCome();
        trainsGoNoMore();
        settings();
        losses();
        howItIs();
        Due.end();
    }

    private static void trainsCome() {
        JarMinutes x = new JarMinutes();
        int[][] bad = {{-1, 0}, {24, 0}, {0, -1}, {0, 100}};
        for (int[] b : bad) {
            Due.due("6: refused", x.train(b[0], b[1]), JarMinutes.BAD);
        }
        for (int i = 0; i < 6; i++) {
            Due.due("6: train", x.train(i == 0 ? 0 : 23, i == 0 ? 0 : 99), i);
        }
        Due.due("6: the seventh", x.train(5, 5), JarMinutes.FULL);
        Due.due("6: BAD ahead of FULL", x.train(24, 5), JarMinutes.BAD);
        Due.due("6: six go", x.is(5), 6);
    }

    private static void trainsGoNoMore() {
        JarMinutes x = new JarMinutes();
        Due.due("7: none", x.strike(), JarMinutes.NONE);
        x.train(5, 0);
        x.train(9, 0);
        x.lay(0, 1);
        Due.due("7: both are missed", x.missed(), 3);
        Due.due("7: strike", x.strike(), 1);
        Due.due("7: the first is missed still", x.missed(), 1);
        Due.due("7: the hour of it", x.wrong(), 5);
        Due.due("7: strike", x.strike(), 0);
        Due.due("7: all is well", x.wrong(), JarMinutes.NONE);
        Due.due("7: none", x.strike(), JarMinutes.NONE);
        Due.due("7: its number comes again", x.train(7, 3), 0);
    }

    private static void settings() {
        JarMinutes x = new JarMinutes();
        int[] first = {11, 0, 0, 1};
        int[] most = {99, 60, 60, 20};
        for (int what = 0; what < 4; what++) {
            Due.due("8: too much of " + what, x.set(what, most[what] + 1), JarMinutes.BAD);
            Due.due("8: below 0 of " + what, x.set(what, -1), JarMinutes.BAD);
            Due.due("8: the most of " + what, x.set(what, most[what]), first[what]);
            Due.due("8: is " + what, x.is(what), most[what]);
            Due.due("8: the least of " + what, x.set(what, 0), most[what]);
            Due.due("8: is " + what, x.is(what), 0);
        }
        for (int what : new int[] {-1, 4, 5, 6, 7, 8}) {
            Due.due("8: nothing to set " + what, x.set(what, 0), JarMinutes.BAD);
        }
    }

    private static void losses() {
        JarMinutes x = new JarMinutes();
        Due.due("9: first", x.loss(0, 99), 5);
        Due.due("9: then", x.loss(0, 0), 99);
        Due.due("9: hour 23", x.loss(23, 7), 5);
        Due.due("9: refused", x.loss(24, 0), JarMinutes.BAD);
        Due.due("9: refused", x.loss(-1, 0), JarMinutes.BAD);
        Due.due("9: refused", x.loss(0, 100), JarMinutes.BAD);
        Due.due("9: refused", x.loss(0, -1), JarMinutes.BAD);
        x.lay(0, -2);
        x.lay(23, -2);
        x.lay(12, -1);
        Due.due("9: losses count a minute each", x.gain(), -19);
    }

    private static void howItIs() {
        JarMinutes x = new JarMinutes();
        x.person(0, 0, 20);
        x.train(0, 0);
        x.train(3, 9);
        x.set(1, 50);
        x.set(2, 40);
        x.set(3, 7);
        x.lay(0, 2);
        x.lay(1, -1);
        Due.due("14: a day", x.day(), 35);
        int[] due = {10, 50, 40, 7, 1, 2, 1, 35};
        for (int what = 0; what < due.length; what++) {
            Due.due("14: is " + what, x.is(what), due[what]);
        }
        x.lay(0, 1);
        x.loss(1, 99);
        Due.due("14: a sad day", x.day(), -79);
        Due.due("14: HAPPINESS below 0", x.is(7), -44);
        Due.due("14: two days", x.is(6), 2);
        Due.due("14: refused", x.is(8), JarMinutes.BAD - LESS);
        Due.due("14: refused", x.is(-1), JarMinutes.BAD - LESS);
    }
}
