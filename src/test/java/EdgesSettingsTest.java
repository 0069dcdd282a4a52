/** Promises 6 to 9, 13 and 14, each sentence that names an edge: TRAINS, settings, LOSSES, a PLAN laid, how it is. */
public final class EdgesSettingsTest {
    public static void main(String[] args) {
        trainNumbers();
        trainFull();
        trainsAsTheyCome();
        strikeNone();
        strikeTakesTheLast();
        setNumbers();
        setNothingElse();
        setAnswersWhatItWas();
        lossNumbers();
        lossCountsAtBothEnds();
        layNumbers();
        layAnswersWhatItWas();
        isNumbers();
        isBelowNothing();
        Due.end();
    }

    private static void trains(JarMinutes x, int n) {
        for (int i = 0; i < n; i++) {
            x.train(4 * i, 20 + i);
        }
    }

    // Promises 6 and 7: train, strike

    private static void trainNumbers() {
        Edges.number("6: HOUR", Edges::rich, 0, 23, (x, v) -> x.train(v, 50), v -> 3, JarMinutes.BAD);
        Edges.number("6: waits", Edges::rich, 0, 99, (x, v) -> x.train(7, v), v -> 3, JarMinutes.BAD);
    }

    private static void trainFull() {
        JarMinutes x = new JarMinutes();
        trains(x, 5);
        Due.due("6: the sixth is taken", x.train(1, 1), 5);
        Due.due("6: FULL: 6", x.is(5), 6);
        Edges.Told full = o -> trains(o, 6);
        Edges.refused("6: the seventh is refused", full, o -> o.train(1, 1), JarMinutes.FULL);
        Edges.refused("6: BAD ahead of FULL, HOUR", full, o -> o.train(24, 1), JarMinutes.BAD);
        Edges.refused("6: BAD ahead of FULL, waits", full, o -> o.train(1, 100), JarMinutes.BAD);
    }

    private static void trainsAsTheyCome() {
        JarMinutes x = new JarMinutes();
        for (int i = 0; i < 6; i++) {
            Due.due("6: TRAINS 0 .. 5, as they come", x.train(i + 1, i), i);
        }
        for (int i = 0; i < 6; i++) {
            x.plan();
            x.lay(i, i);
            Due.due("6: so late, TRAIN " + i + " is caught still", x.missed() >> i & 1, 0);
            x.lay(0, i == 0 ? 1 : x.late(1) + 1);
            Due.due("6: one more, TRAIN " + i + " is missed", x.missed() >> i & 1, 1);
        }
    }

    private static void strikeNone() {
        Edges.refused("7: there was none", Edges::nothing, x -> x.strike(), JarMinutes.NONE);
        Edges.refused("7: there is none any more", x -> {
            trains(x, 1);
            x.strike();
        }, x -> x.strike(), JarMinutes.NONE);
        JarMinutes x = new JarMinutes();
        trains(x, 6);
        for (int left = 5; left >= 0; left--) {
            Due.due("7: how many there are", x.strike(), left);
            Due.due("7: so many are told", x.is(5), left);
        }
        Due.due("7: none", x.strike(), JarMinutes.NONE);
        Due.due("6: the first one again", x.train(0, 0), 0);
    }

    private static void strikeTakesTheLast() {
        JarMinutes x = new JarMinutes();
        x.train(4, 0);
        x.train(2, 0);
        x.lay(0, 1);
        Due.due("7: both are missed", x.missed(), 3);
        x.strike();
        Due.due("7: the last goes no more", x.missed(), 1);
        Due.due("7: the first goes still", x.wrong(), 4);
        Due.due("7: one in place of it", x.train(5, 1), 1);
        Due.due("7: that one is caught", x.missed(), 1);
    }

    // Promises 8 and 9: set, loss

    private static void setNumbers() {
        int[] were = {20, 50, 40, 7};
        int[] most = {99, 60, 60, 20};
        String[] names = {"THE JAR", "LEAK", "TERM", "DUE"};
        for (int what = 0; what < 4; what++) {
            int that = what;
            Edges.number("8: " + names[what], x -> {
                Edges.rich(x);
                x.set(0, 20);
            }, 0, most[what], (x, v) -> x.set(that, v), v -> were[that], JarMinutes.BAD);
        }
    }

    private static void setNothingElse() {
        for (int v : new int[] {0, 1, -1, 99}) {
            Edges.refusedBelow("8: set what, v " + v + ",", Edges::rich, 0, (x, what) -> x.set(what, v), JarMinutes.BAD);
            Edges.refusedAbove("8: set what, v " + v + ",", Edges::rich, 3, (x, what) -> x.set(what, v), JarMinutes.BAD);
        }
    }

    private static void setAnswersWhatItWas() {
        int[] were = {11, 0, 0, 1};
        int[] most = {99, 60, 60, 20};
        JarMinutes x = new JarMinutes();
        for (int what = 0; what < 4; what++) {
            Due.due("8: what it was at first, " + what, x.set(what, most[what]), were[what]);
            Due.due("8: is the most, " + what, x.is(what), most[what]);
            Due.due("8: what it was, " + what, x.set(what, 0), most[what]);
            Due.due("8: is the least, " + what, x.is(what), 0);
            Due.due("8: the others are as they were, " + what, x.is((what + 1) % 4), what == 3 ? 0 : were[what + 1]);
        }
    }

    private static void lossNumbers() {
        Edges.number("9: HOUR", Edges::rich, 0, 23, (x, v) -> x.loss(v, 1), v -> 5, JarMinutes.BAD);
        Edges.number("9: LOSS", Edges::rich, 0, 99, (x, v) -> x.loss(9, v), v -> 4, JarMinutes.BAD);
    }

    private static void lossCountsAtBothEnds() {
        JarMinutes x = new JarMinutes();
        x.lay(0, -2);
        x.lay(23, -1);
        x.lay(11, 0);
        Due.due("9: 5 at first", x.gain(), -15);
        Due.due("9: the first HOUR", x.loss(0, 0), 5);
        Due.due("9: the last HOUR", x.loss(23, 99), 5);
        Due.due("9: 0 for two, 99 for one", x.gain(), -99);
        Due.due("9: what it was", x.loss(0, 99), 0);
        Due.due("9: what it was", x.loss(23, 0), 99);
        Due.due("9: 99 for two, 0 for one", x.gain(), -198);
    }

    // Promise 13: lay

    private static void layNumbers() {
        Edges.number("13: HOUR", Edges::rich, 0, 23, (x, v) -> x.lay(v, 3), v -> v == 0 ? 5 : 1, JarMinutes.BAD - Edges.LESS);
        Edges.number("13: the number", Edges::rich, -2, 5, (x, v) -> x.lay(7, v), v -> -2, JarMinutes.BAD - Edges.LESS);
    }

    private static void layAnswersWhatItWas() {
        JarMinutes x = new JarMinutes();
        for (int hour : new int[] {0, 23}) {
            Due.due("13: 0 at first", x.lay(hour, -2), 0);
            for (int v = -1; v <= 5; v++) {
                Due.due("13: what it was", x.lay(hour, v), v - 1);
            }
            Due.due("13: the others are as they were", x.lay(12, 0), 0);
        }
        Due.due("13: both count", x.late(24), 10);
    }

    // Promise 14: is

    private static void isNumbers() {
        JarMinutes x = new JarMinutes();
        Edges.rich(x);
        int happiness = x.is(7);
        Edges.number("14: what", Edges::rich, 0, 7, (o, v) -> o.is(v), v -> v == 0 ? x.is(0) : happiness, JarMinutes.BAD - Edges.LESS);
        int[] due = {20, 50, 40, 7, 4, 3, 2, happiness};
        JarMinutes y = new JarMinutes();
        Edges.rich(y);
        y.set(0, 20);
        for (int what = 0; what < 8; what++) {
            Due.due("14: is " + what, y.is(what), due[what]);
        }
    }

    private static void isBelowNothing() {
        JarMinutes x = new JarMinutes();
        x.person(0, 0, 1);
        x.loss(1, 99);
        x.lay(0, 1);
        x.lay(1, -1);
        Due.due("14: a sad DAY", x.day(), -98);
        Due.due("14: HAPPINESS below 0", x.is(7), -98);
        x.loss(1, 0);
        Due.due("19: a better one", x.day(), 1);
        Due.due("14: HAPPINESS below 0 still", x.is(7), -97);
    }
}
