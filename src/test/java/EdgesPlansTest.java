/** Promises 15 to 19, each sentence that names an edge: LATE, GAIN, LAWFUL PLANS, TRAINS that are missed, a DAY that is done. */
public final class EdgesPlansTest {
    private static final int LESS = Edges.LESS;

    public static void main(String[] args) {
        lateNumbers();
        lateCountsHoursAhead();
        lateBelowNothing();
        gainOfNumbers();
        gainOfWhoMayAct();
        gainBelowNothing();
        wrongBelowNothing();
        wrongAboveTheJar();
        wrongAtATrain();
        wrongIsTheFirst();
        wrongNone();
        missedIsASet();
        missedAtEdges();
        dayNot();
        dayFull();
        dayNotAheadOfFull();
        dayTakesFromTheJar();
        leakNever();
        leakDivides();
        leakNothingAtLeast();
        termNever();
        termDivides();
        dueNinetyNineAtMost();
        leakAheadOfDue();
        Due.end();
    }

    // Promise 15: late

    private static void lateNumbers() {
        JarMinutes x = new JarMinutes();
        Edges.rich(x);
        int atEnd = x.late(24);
        Edges.number("15: HOUR", Edges::rich, 0, 24, (o, v) -> o.late(v), v -> v == 0 ? 0 : atEnd, JarMinutes.BAD - LESS);
    }

    private static void lateCountsHoursAhead() {
        for (int hour = 0; hour < 24; hour++) {
            JarMinutes x = new JarMinutes();
            x.lay(hour, 5);
            for (int at = 0; at <= 24; at++) {
                Due.due("15: 5 laid at " + hour + ", LATE at " + at, x.late(at), at > hour ? 5 : 0);
            }
        }
        JarMinutes x = new JarMinutes();
        for (int hour = 0; hour < 24; hour++) {
            x.lay(hour, 5);
        }
        Due.due("15: at the end, the most", x.late(24), 120);
        Due.due("15: at the last HOUR", x.late(23), 115);
        Due.due("15: at the first HOUR", x.late(0), 0);
    }

    private static void lateBelowNothing() {
        JarMinutes x = new JarMinutes();
        for (int hour = 0; hour < 24; hour++) {
            x.lay(hour, -2);
        }
        Due.due("15: at the end, the least", x.late(24), -48);
        Due.due("15: below 0", x.late(1), -2);
        Due.due("15: refused, 100000000 less", x.late(25), -100000001);
    }

    // Promise 16: gain

    private static void gainOfNumbers() {
        JarMinutes x = new JarMinutes();
        Due.town(x, "p0w99,c23w7");
        x.loss(0, 40);
        int[] due = {-80, -40, 0, 99, 99 + 49, 99 + 49 + 24, 99 + 49 + 24 + 12, 99 + 49 + 24 + 12 + 6};
        for (int v = -2; v <= 5; v++) {
            x.lay(0, v);
            Due.due("16: GAIN of " + v + " at the first HOUR", x.gain(), due[v + 2]);
        }
        x.lay(0, 0);
        x.lay(23, 5);
        Due.due("16: GAIN at the last HOUR", x.gain(), 35 + 96 + 48 + 24 + 12 + 6);
        x.loss(23, 99);
        x.lay(23, -2);
        Due.due("16: LOSS at the last HOUR", x.gain(), -198);
        Due.due("16: nobody, nothing", new JarMinutes().gain(), 0);
        JarMinutes y = new JarMinutes();
        y.loss(5, 0);
        y.lay(5, -2);
        Due.due("16: LOSS 0", y.gain(), 0);
    }

    private static void gainOfWhoMayAct() {
        JarMinutes x = new JarMinutes();
        Due.town(x, "c5w1,c5w2,c5w4,c5w8,c5w16,c5w32,c5w64,c5w99");
        x.lay(5, 2);
        x.lay(6, -1);
        Due.due("16: all eight", x.gain(), 2 * (127 + 99) - 5);
        x.may(0, 0);
        Due.due("16: without the first", x.gain(), 2 * (126 + 99) - 5);
        x.may(7, 0);
        Due.due("16: without the last", x.gain(), 2 * 126 - 5);
        for (int person = 1; person < 7; person++) {
            x.may(person, 0);
        }
        Due.due("16: none may act, LOSSES count", x.gain(), -5);
        x.may(7, 1);
        Due.due("16: the last alone", x.gain(), 193);
    }

    private static void gainBelowNothing() {
        JarMinutes x = new JarMinutes();
        for (int hour = 0; hour < 24; hour++) {
            x.loss(hour, 99);
            x.lay(hour, -2);
        }
        Due.due("16: the least", x.gain(), -24 * 198);
        JarMinutes y = new JarMinutes();
        for (int i = 0; i < 8; i++) {
            y.person(2, 3 * i, 99);
        }
        int most = 0;
        for (int hour = 0; hour < 24; hour++) {
            y.lay(hour, 5);
            for (int i = 0; i < 8; i++) {
                most += 5 * y.worth(i, hour, 0);
            }
        }
        Due.due("16: the most, five at each HOUR for eight", y.gain(), most);
    }

    // Promise 17: wrong

    private static void wrongBelowNothing() {
        for (int hour = 0; hour < 24; hour++) {
            JarMinutes x = new JarMinutes();
            x.lay(hour, -1);
            Due.due("17: LATE by -1 behind " + hour, x.wrong(), hour);
            if (hour > 0) {
                x.lay(hour - 1, 1);
                Due.due("17: LATE by 0 behind " + hour, x.wrong(), JarMinutes.NONE);
                x.lay(hour, -2);
                Due.due("17: LATE by -1 again behind " + hour, x.wrong(), hour);
            }
        }
    }

    private static void wrongAboveTheJar() {
        for (int hour = 0; hour < 24; hour++) {
            JarMinutes x = new JarMinutes();
            x.set(0, 3);
            x.lay(hour, 3);
            Due.due("17: as much as THE JAR has behind " + hour, x.wrong(), JarMinutes.NONE);
            x.lay(hour, 4);
            Due.due("17: one more than THE JAR has behind " + hour, x.wrong(), hour);
            x.set(0, 4);
            Due.due("17: THE JAR has one more", x.wrong(), JarMinutes.NONE);
        }
        JarMinutes x = new JarMinutes();
        x.set(0, 0);
        Due.due("17: an empty JAR, nothing laid", x.wrong(), JarMinutes.NONE);
        x.lay(9, 1);
        Due.due("17: an empty JAR, one laid", x.wrong(), 9);
        x.set(0, 99);
        for (int hour = 0; hour < 20; hour++) {
            x.lay(hour, 5);
        }
        Due.due("17: 100 of 99", x.wrong(), 19);
        x.lay(0, 4);
        Due.due("17: 99 of 99", x.wrong(), JarMinutes.NONE);
    }

    private static void wrongAtATrain() {
        for (int hour = 1; hour < 24; hour++) {
            JarMinutes x = new JarMinutes();
            x.train(hour, 2);
            x.lay(hour - 1, 2);
            x.lay(hour, 3);
            Due.due("17: no more LATE than TRAIN waits at " + hour, x.wrong(), JarMinutes.NONE);
            x.lay(hour - 1, 3);
            Due.due("17: one more than TRAIN waits at " + hour, x.wrong(), hour);
        }
        JarMinutes x = new JarMinutes();
        x.train(0, 0);
        x.lay(0, 5);
        Due.due("17: a TRAIN of the first HOUR is always caught", x.wrong(), JarMinutes.NONE);
        x.train(1, 99);
        Due.due("17: one that waits 99", x.wrong(), JarMinutes.NONE);
    }

    private static void wrongIsTheFirst() {
        JarMinutes x = new JarMinutes();
        x.set(0, 2);
        x.train(10, 0);
        Due.plan(x, "4+3,6-2,9+1,12-2,14-1,20+5");
        Due.due("17: more than THE JAR has, ahead of all", x.wrong(), 4);
        x.set(0, 5);
        Due.due("17: then the TRAIN", x.wrong(), 10);
        x.strike();
        Due.due("17: then below 0", x.wrong(), 14);
        x.lay(14, 0);
        Due.due("17: then nothing", x.wrong(), JarMinutes.NONE);
        x.lay(21, 1);
        Due.due("17: then more than THE JAR has", x.wrong(), 21);
        x.train(6, 2);
        Due.due("17: a later TRAIN of an earlier HOUR", x.wrong(), 6);
        x.lay(3, -1);
        Due.due("17: below 0 ahead of it", x.wrong(), 3);
    }

    private static void wrongNone() {
        JarMinutes x = new JarMinutes();
        Due.due("17: NONE: an empty PLAN", x.wrong(), -4);
        for (int i = 0; i < 6; i++) {
            x.train(4 * i + 3, 0);
        }
        Due.due("17: NONE: TRAINS that wait for nobody", x.wrong(), -4);
        x.set(0, 0);
        Due.due("17: NONE: an empty JAR", x.wrong(), -4);
    }

    // Promise 18: missed

    private static void missedIsASet() {
        for (int which = 0; which < 6; which++) {
            JarMinutes x = new JarMinutes();
            for (int i = 0; i < 6; i++) {
                x.train(5, i == which ? 0 : 1);
            }
            x.lay(4, 1);
            Due.due("18: TRAIN " + which + " alone", x.missed(), 1 << which);
            x.lay(4, 2);
            Due.due("18: all six", x.missed(), 63);
            x.lay(4, 0);
            Due.due("18: none", x.missed(), 0);
        }
        Due.due("18: no TRAIN goes", new JarMinutes().missed(), 0);
    }

    private static void missedAtEdges() {
        JarMinutes x = new JarMinutes();
        x.train(0, 0);
        x.train(23, 99);
        x.train(1, 4);
        x.train(1, 5);
        for (int hour = 0; hour < 24; hour++) {
            x.lay(hour, 5);
        }
        Due.due("18: first HOUR: LATE by 0; 115 of 99; 5 of 4, 5 of 5", x.missed(), 2 | 4);
        for (int hour = 0; hour < 3; hour++) {
            x.lay(hour, 0);
        }
        x.lay(3, 4);
        Due.due("18: 99 of 99", x.late(23), 99);
        Due.due("18: caught", x.missed(), 0);
        x.lay(3, 5);
        Due.due("18: 100 of 99", x.missed(), 2);
        JarMinutes y = new JarMinutes();
        y.train(5, 0);
        y.lay(4, -2);
        Due.due("18: LATE by -2 is no more than 0", y.missed(), 0);
        y.lay(5, 5);
        Due.due("18: what is laid at its own HOUR does not count", y.missed(), 0);
    }

    // Promise 19: day

    private static void lay(JarMinutes x, int... pairs) {
        for (int i = 0; i < pairs.length; i += 2) {
            x.lay(pairs[i], pairs[i + 1]);
        }
    }

    private static void dayNot() {
        Edges.refused("19: NOT: LATE below 0", x -> {
            Edges.rich(x);
            lay(x, 0, -1);
        }, x -> x.day(), JarMinutes.NOT - LESS);
        Edges.refused("19: NOT: one more than THE JAR has", x -> {
            Edges.rich(x);
            x.plan();
            x.set(0, 4);
            lay(x, 5, 5, 6, 0);
        }, x -> x.day(), JarMinutes.NOT - LESS);
        Edges.refused("19: NOT: a TRAIN is missed", x -> {
            Edges.rich(x);
            x.plan();
            x.set(0, 99);
            lay(x, 5, 4, 6, 0);
            x.train(8, 3);
        }, x -> x.day(), JarMinutes.NOT - LESS);
        Edges.refused("19: NOT: at the last HOUR", x -> {
            x.set(0, 0);
            lay(x, 23, 1);
        }, x -> x.day(), JarMinutes.NOT - LESS);
    }

    /** So many DAYS, by an empty PLAN of nobody. */
    private static void days(JarMinutes x, int n) {
        for (int left = n; left > 0; left -= 30) {
            x.spend(Math.min(left, 30));
        }
    }

    private static void dayFull() {
        JarMinutes x = new JarMinutes();
        days(x, 9998);
        Due.due("19: the 9999th DAY", x.day(), 0);
        Due.due("19: so many", x.is(6), 9999);
        Edges.refusedLate("19: FULL: 9999 were", o -> {
            days(o, 9999);
            o.lay(3, 2);
        }, o -> o.day(), JarMinutes.FULL - LESS);
    }

    private static void dayNotAheadOfFull() {
        Edges.refusedLate("19: NOT ahead of FULL", o -> {
            days(o, 9999);
            o.lay(3, -1);
        }, o -> o.day(), JarMinutes.NOT - LESS);
    }

    private static void dayTakesFromTheJar() {
        JarMinutes x = new JarMinutes();
        x.person(0, 3, 10);
        lay(x, 3, 5, 4, 5, 23, 1);
        Due.due("19: as much as THE JAR has", x.day(), 50);
        Due.due("19: it is empty", x.is(0), 0);
        Due.due("19: nothing more", x.day(), JarMinutes.NOT - LESS);
        lay(x, 3, 0, 4, 0, 23, 0);
        Due.due("19: a DAY of nothing", x.day(), 0);
        Due.due("19: it is empty still", x.is(0), 0);
        Due.due("19: HAPPINESS", x.is(7), 50);
        Due.due("19: two DAYS", x.is(6), 2);
        x.set(0, 5);
        lay(x, 3, 5, 4, -2, 5, -2, 23, -1);
        Due.due("19: LATE by 0 at the end", x.day(), 25);
        Due.due("19: THE JAR has as much as it had", x.is(0), 5);
        Due.due("19: the PLAN stays", x.late(4), 5);
    }

    // LEAK and TERM, behind a DAY

    private static void jarBehindDays(String what, JarMinutes x, int n, int due) {
        days(x, n);
        Due.due(what, x.is(0), due);
    }

    private static void leakNever() {
        JarMinutes x = new JarMinutes();
        jarBehindDays("19: LEAK 0 at first: never", x, 121, 11);
        x.set(1, 1);
        x.set(1, 0);
        jarBehindDays("19: LEAK 0: never", x, 121, 11);
    }

    private static void leakDivides() {
        for (int leak : new int[] {1, 2, 3, 7, 59, 60}) {
            JarMinutes x = new JarMinutes();
            x.set(0, 50);
            x.set(1, leak);
            jarBehindDays("19: no LEAK " + leak + " ahead of its DAY", x, leak - 1, 50);
            jarBehindDays("19: LEAK " + leak + " on its DAY", x, 1, 49);
            jarBehindDays("19: LEAK " + leak + " ahead of the next", x, leak - 1, 49);
            jarBehindDays("19: LEAK " + leak + " on the next", x, 1, 48);
        }
        JarMinutes x = new JarMinutes();
        days(x, 5);
        x.set(1, 3);
        jarBehindDays("19: DAYS of all count, not those since LEAK was set", x, 1, 10);
    }

    private static void leakNothingAtLeast() {
        JarMinutes x = new JarMinutes();
        x.set(0, 1);
        x.set(1, 1);
        jarBehindDays("19: the last one leaks", x, 1, 0);
        jarBehindDays("19: 0 at least", x, 1, 0);
        jarBehindDays("19: 0 at least, again", x, 30, 0);
        JarMinutes y = new JarMinutes();
        y.set(1, 1);
        lay(y, 3, 5, 4, 5);
        y.day();
        Due.due("19: it leaks behind what is laid", y.is(0), 0);
        lay(y, 3, 0, 4, 0);
        y.day();
        Due.due("19: 0 at least", y.is(0), 0);
    }

    private static void termNever() {
        JarMinutes x = new JarMinutes();
        x.set(3, 20);
        jarBehindDays("19: TERM 0 at first: never", x, 121, 11);
        x.set(2, 1);
        x.set(2, 0);
        jarBehindDays("19: TERM 0: never", x, 121, 11);
    }

    private static void termDivides() {
        for (int term : new int[] {1, 2, 3, 7, 59, 60}) {
            JarMinutes x = new JarMinutes();
            x.set(2, term);
            jarBehindDays("19: no DUE ahead of TERM " + term, x, term - 1, 11);
            jarBehindDays("19: DUE 1 at first, TERM " + term, x, 1, 12);
            x.set(3, 20);
            jarBehindDays("19: none ahead of the next TERM " + term, x, term - 1, 12);
            jarBehindDays("19: DUE 20 on the next TERM " + term, x, 1, 32);
            x.set(3, 0);
            jarBehindDays("19: DUE 0 on the third TERM " + term, x, term, 32);
        }
    }

    private static void dueNinetyNineAtMost() {
        int[][] rows = {{78, 98}, {79, 99}, {80, 99}, {98, 99}, {99, 99}, {0, 20}};
        for (int[] row : rows) {
            JarMinutes x = new JarMinutes();
            x.set(0, row[0]);
            x.set(2, 1);
            x.set(3, 20);
            jarBehindDays("19: 20 more than " + row[0] + ", 99 at most", x, 1, row[1]);
        }
    }

    private static void leakAheadOfDue() {
        int[][] rows = {{0, 1, 1}, {0, 20, 20}, {1, 20, 20}, {2, 20, 21}, {99, 1, 99}, {99, 0, 98}, {99, 20, 99}, {79, 20, 98}, {80, 20, 99}};
        for (int[] row : rows) {
            JarMinutes x = new JarMinutes();
            x.set(0, row[0]);
            x.set(1, 1);
            x.set(2, 1);
            x.set(3, row[1]);
            jarBehindDays("19: LEAK, then DUE " + row[1] + " of " + row[0], x, 1, row[2]);
        }
    }
}
