/** Promises 13 and 15 to 19: PLANS laid, judged, done. */
public final class PlansTest {
    private static final int LESS = 100000000;

    public static void main(String[] args) {
        lay();
        late();
        gain();
        wrong();
        missed();
        day();
        leakAndDue();
        dayFull();
        Due.end();
    }

    private static void lay() {
        JarMinutes x = new JarMinutes();
        Due.due("13: lay", x.lay(0, 5), 0);
        Due.due("13: lay", x.lay(0, -2), 5);
        Due.due("13: lay", x.lay(23, -1), 0);
        int[][] bad = {{-1, 0}, {24, 0}, {0, 6}, {0, -3}};
        for (int[] b : bad) {
            Due.due("13: refused", x.lay(b[0], b[1]), JarMinutes.BAD - LESS);
        }
        Due.due("13: lay", x.lay(0, 1), -2);
        Due.due("13: lay", x.lay(23, 0), -1);
    }

    private static void late() {
        JarMinutes x = new JarMinutes();
        Due.plan(x, "0+3,5-2,6-2,23+5");
        int[] due = {0, 3, 3, 3, 3, 3, 1, -1, -1, -1, -1, -1, -1, -1, -1, -1, -1, -1, -1, -1, -1, -1, -1, -1, 4};
        for (int hour = 0; hour <= 24; hour++) {
            Due.due("15: late " + hour, x.late(hour), due[hour]);
        }
        Due.due("15: refused", x.late(25), JarMinutes.BAD - LESS);
        Due.due("15: refused", x.late(-1), JarMinutes.BAD - LESS);
    }

    private static void gain() {
        JarMinutes x = new JarMinutes();
        Due.due("16: nothing", x.gain(), 0);
        Due.town(x, "c8w10,p8w9,k6w20,l9w4-");
        Due.plan(x, "8+3");
        Due.due("16: 3 for each but the lover", x.gain(), 30 + 9 + 4 + 2 + 42);
        Due.plan(x, "8+3,7-2,0-1");
        x.loss(7, 40);
        Due.due("16: less losses", x.gain(), 87 - 80 - 5);
        Due.plan(x, "7-2");
        Due.due("16: below 0", x.gain(), -80);
        x.may(3, 1);
        Due.plan(x, "9+5");
        Due.due("16: five of hour 9", x.gain(), 6 + 3 + 1 + 5 * 11 + 5 * 4);
    }

    private static void wrong() {
        JarMinutes x = new JarMinutes();
        Due.due("17: nothing is", x.wrong(), JarMinutes.NONE);
        x.set(0, 4);
        Due.plan(x, "3+4,4-2,5-2,6-1");
        Due.due("17: below 0", x.wrong(), 6);
        Due.plan(x, "3+4,4-2,5+3");
        Due.due("17: more than the jar has", x.wrong(), 5);
        Due.plan(x, "3+4,4-2,5+2");
        Due.due("17: as much as it has", x.wrong(), JarMinutes.NONE);
        x.train(4, 3);
        Due.due("17: a train of that hour is missed", x.wrong(), 4);
        x.strike();
        x.train(4, 4);
        x.train(3, 0);
        x.train(23, 4);
        Due.due("17: trains caught", x.wrong(), JarMinutes.NONE);
        x.train(23, 3);
        Due.due("17: the last hour's is missed", x.wrong(), 23);
        Due.plan(x, "0-1,1+1");
        Due.due("17: hour 0", x.wrong(), 0);
        Due.plan(x, "23+5");
        Due.due("17: hour 23", x.wrong(), 23);
    }

    private static void missed() {
        JarMinutes x = new JarMinutes();
        Due.due("18: none goes", x.missed(), 0);
        Due.plan(x, "0+2,4+3,9-2");
        int[][] trains = {{0, 0}, {4, 1}, {5, 4}, {5, 5}, {10, 2}, {9, 4}};
        for (int[] t : trains) {
            x.train(t[0], t[1]);
        }
        Due.due("18: missed", x.missed(), 2 | 4 | 16 | 32);
        x.set(0, 0);
        Due.due("18: the jar counts for nothing", x.missed(), 2 | 4 | 16 | 32);
        Due.plan(x, "0-2");
        Due.due("18: ahead of time", x.missed(), 0);
    }

    private static void day() {
        JarMinutes x = new JarMinutes();
        Due.town(x, "c8w10");
        Due.plan(x, "8+5,9-2");
        Due.due("19: day", x.day(), 40);
        Due.due("19: the jar has less", x.is(0), 8);
        Due.due("19: happiness", x.is(7), 40);
        Due.due("19: days", x.is(6), 1);
        Due.due("19: day", x.day(), 40);
        Due.due("19: day", x.is(0), 5);
        Due.due("19: day", x.day(), 40);
        Due.due("19: day", x.is(0), 2);
        Due.due("19: not lawful", x.day(), JarMinutes.NOT - LESS);
        Due.due("19: nothing changes", x.is(0), 2);
        Due.due("19: nothing changes", x.is(6), 3);
        Due.due("19: nothing changes", x.is(7), 120);
        Due.due("19: the plan stays", x.late(24), 3);
        Due.plan(x, "8+2,9-2");
        x.loss(9, 50);
        Due.due("19: below 0", x.day(), -80);
        Due.due("19: happiness", x.is(7), 40);
        x.train(9, 1);
        Due.due("19: a train is missed", x.day(), JarMinutes.NOT - LESS);
    }

    private static void leakAndDue() {
        JarMinutes x = new JarMinutes();
        x.set(0, 3);
        x.set(1, 2);
        x.set(2, 3);
        x.set(3, 20);
        int[] due = {3, 2, 22, 21, 21, 40, 40, 39, 59, 58};
        for (int i = 0; i < due.length; i++) {
            Due.due("19: day", x.day(), 0);
            Due.due("19: the jar behind day " + (i + 1), x.is(0), due[i]);
        }
        x.set(0, 0);
        x.set(1, 1);
        x.set(2, 0);
        x.day();
        Due.due("19: leaks to 0 at least", x.is(0), 0);
        x.set(0, 50);
        x.day();
        Due.due("19: leaks each day", x.is(0), 49);
        x.set(2, 1);
        x.set(0, 0);
        x.day();
        Due.due("19: leaks ahead of what is owed", x.is(0), 20);
        x.set(0, 90);
        x.day();
        Due.due("19: 99 at most", x.is(0), 99);
        x.set(1, 0);
        x.day();
        Due.due("19: 99 still", x.is(0), 99);
    }

    private static void dayFull() {
        JarMinutes x = new JarMinutes();
        for (int i = 0; i < 333; i++) {
            Due.due("19: spend", x.spend(30), 0);
        }
        for (int i = 0; i < 9; i++) {
            Due.due("19: day", x.day(), 0);
        }
        Due.due("19: 9999", x.is(6), 9999);
        Due.due("19: full", x.day(), JarMinutes.FULL - LESS);
        Due.due("21: full", x.spend(1), JarMinutes.FULL - LESS);
        Due.due("25: full", x.lots(1), JarMinutes.FULL - LESS);
        Due.due("19: 9999 still", x.is(6), 9999);
        x.lay(0, -1);
        Due.due("19: NOT ahead of FULL", x.day(), JarMinutes.NOT - LESS);
        Due.due("21: BAD ahead of FULL", x.spend(31), JarMinutes.BAD - LESS);
        Due.due("25: BAD ahead of FULL", x.lots(0), JarMinutes.BAD - LESS);
    }
}
