/** Promises 20 to 22, each sentence that names an edge: BEST and END PLANS, DAYS by them, SHARES. */
public final class EdgesBestTest {
    private static final int LESS = Edges.LESS;

    public static void main(String[] args) {
        bestNumbers();
        bestOfNobody();
        bestOfAnEmptyJar();
        bestOfEachJar();
        bestFiveAtMost();
        bestTakesTwoAtMost();
        bestLateByNothingAtLeast();
        bestCatchesTrains();
        likeOnesTheFirst();
        endLateByNothing();
        spendNumbers();
        spendFull();
        spendAsAllIsThatDay();
        spendPlanStays();
        shareNumbers();
        shareOfWhoMayNotAct();
        shareIsWithLessWithout();
        Due.end();
    }

    private static void row(JarMinutes x, String what, int end, int gain, int... row) {
        Due.due(what + ": GAIN", x.best(end, -1), gain);
        for (int hour = 0; hour < 24; hour++) {
            Due.due(what + ": HOUR " + hour, x.best(end, hour), hour < row.length ? row[hour] : 0);
        }
    }

    private static void losses(JarMinutes x, int v) {
        for (int hour = 0; hour < 24; hour++) {
            x.loss(hour, v);
        }
    }

    // Promise 20: best

    private static void clerkOfTwo(JarMinutes x) {
        Due.town(x, "c2w10,c0w6,c23w6");
    }

    private static void bestNumbers() {
        Edges.number("20: end", EdgesBestTest::clerkOfTwo, 0, 1, (x, v) -> x.best(v, 2), v -> 5, JarMinutes.BAD - LESS);
        for (int end = 0; end <= 1; end++) {
            int that = end;
            Edges.number("20: i of end " + end, EdgesBestTest::clerkOfTwo, -1, 23, (x, v) -> x.best(that, v),
                v -> v == 23 ? (that == 0 ? 5 : 0) : (that == 0 ? 50 + 30 + 30 - 20 : 50 + 30 - 50), JarMinutes.BAD - LESS);
        }
    }

    private static void bestOfNobody() {
        JarMinutes x = new JarMinutes();
        for (int end = 0; end <= 1; end++) {
            row(x, "20: nobody, end " + end, end, 0);
        }
        Due.town(x, "c5w0,k9w0,c7w99-");
        row(x, "20: nothing to gain", 0, 0);
        x.set(0, 99);
        losses(x, 0);
        row(x, "20: LOSSES of 0, a full JAR: none can be taken ahead of one that is laid", 0, 0);
        row(x, "20: at the end likewise", 1, 0);
    }

    private static void bestOfAnEmptyJar() {
        JarMinutes x = new JarMinutes();
        Due.town(x, "k12w99");
        losses(x, 0);
        x.set(0, 0);
        row(x, "20: an empty JAR", 0, 0);
        row(x, "20: an empty JAR, end", 1, 0);
        x.set(0, 1);
        x.loss(23, 99);
        Due.due("20: one MINUTE is laid, taken and laid", x.best(0, 23), 1);
    }

    /** Five minutes at most where they are worth most; of hours alike the later one first, as less ahead stands first. */
    private static int[] greedy(int jar) {
        int[] row = new int[24];
        int left = jar;
        for (int way = 0; way <= 12 && left > 0; way++) {
            for (int hour = 23; hour >= 0; hour--) {
                if (Math.abs(hour - 12) == way) {
                    row[hour] = Math.min(5, left);
                    left -= row[hour];
                }
            }
        }
        return row;
    }

    private static void bestOfEachJar() {
        for (int jar = 0; jar <= 99; jar++) {
            JarMinutes x = new JarMinutes();
            Due.town(x, "k12w90");
            losses(x, 99);
            x.set(0, jar);
            int[] due = greedy(jar);
            int gain = 0;
            for (int hour = 0; hour < 24; hour++) {
                gain += due[hour] * (90 - 3 * Math.abs(hour - 12));
            }
            row(x, "20: by what THE JAR has at most, " + jar, 0, gain, due);
        }
    }

    private static void bestFiveAtMost() {
        JarMinutes x = new JarMinutes();
        Due.town(x, "c0w99");
        x.set(0, 99);
        row(x, "20: five at most at the first HOUR", 0, 495, 5);
        Due.town(x, "c23w99");
        int[] last = new int[24];
        last[23] = 5;
        row(x, "20: five at most at the last HOUR", 0, 495, last);
        x.set(0, 5);
        row(x, "20: five are there", 0, 495, last);
        x.set(0, 4);
        last[23] = 4;
        row(x, "20: four are there", 0, 396, last);
    }

    private static void bestTakesTwoAtMost() {
        JarMinutes x = new JarMinutes();
        Due.town(x, "c2w50,c5w50");
        x.set(0, 5);
        losses(x, 1);
        x.loss(4, 0);
        row(x, "20: two at most are taken of an HOUR", 0, 200 - 2 + 250, 0, 0, 4, -2, -2, 5);
        x.loss(3, 99);
        row(x, "20: two where it costs nothing", 0, 100 + 250, 0, 0, 2, 0, -2, 5);
        x.loss(3, 50);
        row(x, "20: another two for what they are worth: the least stands first", 0, 100 + 250, 0, 0, 2, 0, -2, 5);
        x.loss(3, 49);
        row(x, "20: another two for one less", 0, 200 - 98 + 250, 0, 0, 4, -2, -2, 5);
    }

    private static void bestLateByNothingAtLeast() {
        JarMinutes x = new JarMinutes();
        Due.town(x, "c2w50,c5w50");
        losses(x, 0);
        x.set(0, 3);
        row(x, "20: no more are taken than were laid", 0, 300, 0, 0, 3, -2, -1, 3, -2, -1);
        x.set(0, 1);
        row(x, "20: one is taken", 0, 100, 0, 0, 1, -1, 0, 1, -1);
        losses(x, 1);
        row(x, "20: none is taken in vain", 0, 99, 0, 0, 1, -1, 0, 1);
    }

    private static void bestCatchesTrains() {
        for (int waits = 0; waits <= 6; waits++) {
            JarMinutes x = new JarMinutes();
            Due.town(x, "c2w10,c1w9");
            losses(x, 99);
            x.train(3, waits);
            int due = waits <= 5 ? 10 * waits : 50 + 9;
            Due.due("20: no more LATE than " + waits, x.best(0, -1), due);
            Due.due("20: at the TRAIN's HOUR ahead", x.best(0, 2), Math.min(waits, 5));
            Due.due("20: and ahead of that", x.best(0, 1), Math.max(waits - 5, 0));
        }
        JarMinutes x = new JarMinutes();
        Due.town(x, "c2w10");
        x.train(2, 0);
        Due.due("20: what is laid at its own HOUR does not count", x.best(0, -1), 50);
        x.train(0, 0);
        Due.due("20: a TRAIN of the first HOUR binds nothing", x.best(0, -1), 50);
        x.train(23, 0);
        row(x, "20: all is taken back for one of the last HOUR", 0, 25, 0, 0, 5, -2, -2, -1);
        x.train(3, 3);
        row(x, "20: the one that waits least counts", 0, 15, 0, 0, 3, -2, -1);
        x.train(3, 2);
        row(x, "20: of two at an HOUR the one that waits least counts", 0, 10, 0, 0, 2, -2);
        x.train(3, 4);
        row(x, "20: in any order", 0, 10, 0, 0, 2, -2);
    }

    private static void likeOnesTheFirst() {
        JarMinutes x = new JarMinutes();
        Due.town(x, "l12w9");
        x.set(0, 1);
        losses(x, 99);
        int[] due = new int[24];
        due[13] = 1;
        row(x, "20: one MINUTE at the last of like HOURS: 0 ahead of 1", 0, 9, due);
        x.set(0, 11);
        due[11] = 1;
        due[12] = 5;
        due[13] = 5;
        row(x, "20: eleven of them", 0, 99, due);
        Due.town(x, "c12w5");
        losses(x, 5);
        x.set(0, 5);
        int[] none = new int[24];
        none[12] = 5;
        row(x, "20: laid and taken behind it for nothing: 5 is not more than 5", 0, 25, none);
    }

    private static void endLateByNothing() {
        JarMinutes x = new JarMinutes();
        Due.town(x, "c23w99");
        row(x, "20: what is laid at the last HOUR can't be taken back", 1, 0);
        Due.town(x, "c22w99");
        int[] due = new int[24];
        due[22] = 2;
        due[23] = -2;
        row(x, "20: two at most can be taken at the last one", 1, 188, due);
        Due.town(x, "c22w5");
        row(x, "20: END: laid for 5, taken for 5: of like ones the first", 1, 0);
        Due.town(x, "c22w6");
        row(x, "20: END: laid for 6", 1, 2, due);
        x.set(0, 1);
        due[22] = 1;
        due[23] = -1;
        row(x, "20: END: one is there", 1, 1, due);
        x.set(0, 0);
        row(x, "20: END: none is there", 1, 0);
    }

    // Promise 21: spend

    private static void spendNumbers() {
        Edges.number("21: n DAYS", o -> {
            Edges.rich(o);
            o.set(0, 0);
            o.set(1, 0);
            o.set(2, 0);
        }, 1, 30, (x, v) -> x.spend(v), v -> 0, JarMinutes.BAD - LESS);
        JarMinutes x = new JarMinutes();
        x.spend(30);
        Due.due("21: thirty DAYS", x.is(6), 30);
        x.spend(1);
        Due.due("21: one more", x.is(6), 31);
    }

    private static void days(JarMinutes x, int n) {
        for (int left = n; left > 0; left -= 30) {
            x.spend(Math.min(left, 30));
        }
    }

    private static void spendFull() {
        for (int n : new int[] {1, 2, 29, 30}) {
            JarMinutes x = new JarMinutes();
            days(x, 9999 - n);
            Due.due("21: up to 9999 by " + n, x.spend(n), 0);
            Due.due("21: so many", x.is(6), 9999);
            Edges.refusedLate("21: FULL: 10000 by " + n, o -> {
                o.person(0, 5, 9);
                days(o, 10000 - n);
                o.set(0, 50);
            }, o -> o.spend(n), JarMinutes.FULL - LESS);
        }
        Edges.Told full = o -> days(o, 9999);
        Edges.refusedLate("21: FULL: 9999 were", full, o -> o.spend(1), JarMinutes.FULL - LESS);
        Edges.refusedLate("21: BAD ahead of FULL: 0", full, o -> o.spend(0), JarMinutes.BAD - LESS);
        Edges.refusedLate("21: BAD ahead of FULL: 31", full, o -> o.spend(31), JarMinutes.BAD - LESS);
    }

    private static void spendAsAllIsThatDay() {
        JarMinutes x = new JarMinutes();
        Due.town(x, "c2w10");
        Due.due("21: 5, 5, 1 and none of eleven", x.spend(4), 110);
        Due.due("21: THE JAR is empty", x.is(0), 0);
        Due.due("21: HAPPINESS", x.is(7), 110);
        JarMinutes y = new JarMinutes();
        Due.town(y, "c2w10");
        y.set(0, 3);
        y.set(1, 2);
        y.set(2, 3);
        y.set(3, 6);
        Due.due("21: LEAK and DUE count from DAY to DAY", y.spend(6), 30 + 50 + 0);
        Due.due("21: 6 on the third, 5 of them laid, the sixth leaks, 6 on the sixth", y.is(0), 6);
        JarMinutes one = new JarMinutes();
        JarMinutes many = new JarMinutes();
        for (JarMinutes o : new JarMinutes[] {one, many}) {
            Due.town(o, "c2w10,k20w31,p9w70");
            o.train(12, 2);
            o.set(0, 99);
            o.set(1, 4);
            o.set(2, 3);
            o.set(3, 13);
        }
        int together = 0;
        for (int i = 0; i < 30; i++) {
            int gain = one.best(0, -1);
            Due.due("21: a DAY is done by the BEST PLAN", one.spend(1), gain);
            together += gain;
        }
        Due.due("21: GAINS together", many.spend(30), together);
        for (int what = 0; what < 8; what++) {
            Due.due("21: is " + what, many.is(what), one.is(what));
        }
    }

    private static void spendPlanStays() {
        JarMinutes x = new JarMinutes();
        Due.town(x, "c2w10");
        for (int hour = 0; hour < 24; hour++) {
            x.lay(hour, -2);
        }
        Due.due("21: whatever the PLAN is", x.spend(2), 100);
        for (int hour = 0; hour < 24; hour++) {
            Due.due("21: the PLAN stays as told", x.lay(hour, 0), -2);
        }
    }

    // Promise 22: share

    private static void shareNumbers() {
        Edges.Told eight = x -> Due.town(x, "c0w1,c1w2,c2w3,c3w4,c4w5,c5w6,c6w7,c7w8");
        Edges.number("22: person of eight", eight, 0, 7, (x, v) -> x.share(v), v -> v == 0 ? 0 : 81 - 70, JarMinutes.BAD);
        Edges.number("22: person of one", x -> Due.town(x, "c0w9"), 0, 0, (x, v) -> x.share(v), v -> 45, JarMinutes.BAD);
        Edges.refused("22: nobody is there", Edges::nothing, x -> x.share(0), JarMinutes.BAD);
    }

    private static void shareOfWhoMayNotAct() {
        JarMinutes x = new JarMinutes();
        Due.town(x, "c0w9-,c1w9");
        Due.due("22: who may not act", x.share(0), 0);
        Due.due("22: who may", x.share(1), 45);
        Due.due("22: he may still", x.told(1, 3), 1);
        Due.due("22: the other one may not still", x.told(0, 3), 0);
        x.set(0, 0);
        Due.due("22: an empty JAR", x.share(1), 0);
    }

    private static void shareIsWithLessWithout() {
        String[] towns = {"k12w30,k13w30,c12w2", "p5w99,l6w40,c20w7-,k22w11", "c3w9,c3w9,l3w9,k3w9,p3w9,c4w9,l5w9,k6w9"};
        for (String town : towns) {
            JarMinutes x = new JarMinutes();
            Due.town(x, town);
            x.train(13, 3);
            for (int person = 0; person < x.is(4); person++) {
                int with = x.best(0, -1);
                int was = x.may(person, 0);
                int without = x.best(0, -1);
                x.may(person, was);
                Due.due("22: '" + town + "': with less without " + person, x.share(person), with - without);
            }
        }
    }
}
