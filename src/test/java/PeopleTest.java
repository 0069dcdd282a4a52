/** Promises 1 to 5: a new object, PEOPLE and what a MINUTE is WORTH to them. */
public final class PeopleTest {
    public static void main(String[] args) {
        newObject();
        peopleCome();
        peopleMayAct();
        peopleAreTold();
        clerkAndLover();
        cookAndPlayer();
        worthRefuses();
        Due.end();
    }

    private static void newObject() {
        JarMinutes x = new JarMinutes();
        int[] due = {11, 0, 0, 1, 0, 0, 0, 0};
        for (int what = 0; what < due.length; what++) {
            Due.due("1: is " + what, x.is(what), due[what]);
        }
        for (int hour = 0; hour < 24; hour++) {
            Due.due("1: lay " + hour, x.lay(hour, 0), 0);
            Due.due("1: loss " + hour, x.loss(hour, 5), 5);
        }
        Due.due("1: seed", x.seed(7), 1);
        Due.due("1: town of an empty tape", x.town(), -20);
        Due.due("1: restore", x.restore(), JarMinutes.NONE);
        for (int sheet = 0; sheet < 4; sheet++) {
            Due.due("1: drop " + sheet, x.drop(sheet), JarMinutes.NULL);
        }
        Due.due("1: drop 4", x.drop(4), JarMinutes.BAD);
    }

    private static void peopleCome() {
        JarMinutes x = new JarMinutes();
        int[][] bad = {{-1, 0, 0}, {4, 0, 0}, {0, -1, 0}, {0, 24, 0}, {0, 0, -1}, {0, 0, 100}};
        for (int[] b : bad) {
            Due.due("2: person", x.person(b[0], b[1], b[2]), JarMinutes.BAD);
        }
        Due.due("2: nobody came", x.is(4), 0);
        for (int i = 0; i < 8; i++) {
            Due.due("2: person", x.person(i % 4, i % 2 == 0 ? 0 : 23, i % 2 == 0 ? 0 : 99), i);
        }
        Due.due("2: the ninth", x.person(0, 0, 0), JarMinutes.FULL);
        Due.due("2: BAD ahead of FULL", x.person(0, 24, 0), JarMinutes.BAD);
        Due.due("2: eight came", x.is(4), 8);
        Due.due("2: the last one's hour", x.told(7, 1), 23);
    }

    private static void peopleMayAct() {
        JarMinutes x = new JarMinutes();
        Due.due("3: nobody", x.may(0, 1), JarMinutes.BAD);
        x.person(0, 8, 10);
        Due.due("3: may", x.may(0, 0), 1);
        Due.due("3: may", x.may(0, 0), 0);
        Due.due("3: told", x.told(0, 3), 0);
        x.lay(8, 1);
        Due.due("3: gain without him", x.gain(), 0);
        Due.due("3: may", x.may(0, 1), 0);
        Due.due("3: gain with him", x.gain(), 10);
        Due.due("3: is 2", x.may(0, 2), JarMinutes.BAD);
        Due.due("3: is -1", x.may(0, -1), JarMinutes.BAD);
        Due.due("3: person -1", x.may(-1, 1), JarMinutes.BAD);
        Due.due("3: person 1", x.may(1, 1), JarMinutes.BAD);
        Due.due("3: person 8", x.may(8, 1), JarMinutes.BAD);
        Due.due("3: told still", x.told(0, 3), 1);
    }

    private static void peopleAreTold() {
        JarMinutes x = new JarMinutes();
        Due.due("4: nobody", x.told(0, 0), JarMinutes.BAD);
        x.person(3, 17, 42);
        Due.due("4: kind", x.told(0, 0), 3);
        Due.due("4: hour", x.told(0, 1), 17);
        Due.due("4: weight", x.told(0, 2), 42);
        Due.due("4: may", x.told(0, 3), 1);
        Due.due("4: what 4", x.told(0, 4), JarMinutes.BAD);
        Due.due("4: what -1", x.told(0, -1), JarMinutes.BAD);
        Due.due("4: person 1", x.told(1, 0), JarMinutes.BAD);
        Due.due("4: person -1", x.told(-1, 0), JarMinutes.BAD);
        Due.due("4: person 8", x.told(8, 0), JarMinutes.BAD);
    }

    private static void clerkAndLover() {
        JarMinutes x = new JarMinutes();
        x.person(0, 8, 10);
        x.person(1, 0, 7);
        x.person(1, 23, 6);
        for (int hour = 0; hour < 24; hour++) {
            boolean nearMidnight = hour == 23 || hour <= 1;
            boolean nearLast = hour >= 22 || hour == 0;
            for (int k = 0; k < 5; k++) {
                Due.due("5: clerk at " + hour, x.worth(0, hour, k), hour == 8 ? 10 : 0);
                Due.due("5: lover of 0 at " + hour, x.worth(1, hour, k), nearMidnight ? 7 : 0);
                Due.due("5: lover of 23 at " + hour, x.worth(2, hour, k), nearLast ? 6 : 0);
            }
        }
    }

    private static void cookAndPlayer() {
        JarMinutes x = new JarMinutes();
        x.person(2, 22, 30);
        x.person(3, 22, 30);
        int[] byHour = {24, 21, 18, 15, 12, 9, 6, 3, 0, 0, 0, 0, 0, 3, 6, 9, 12, 15, 18, 21, 24, 27, 30, 27};
        for (int hour = 0; hour < 24; hour++) {
            int half = byHour[hour];
            for (int k = 0; k < 5; k++) {
                Due.due("5: cook at " + hour, x.worth(0, hour, k), byHour[hour]);
                Due.due("5: player at " + hour, x.worth(1, hour, k), half);
                half = half / 2;
            }
        }
        x.may(1, 0);
        Due.due("5: worth does not ask who may act", x.worth(1, 22, 1), 15);
        x.person(2, 0, 99);
        Due.due("5: twelve apart", x.worth(2, 12, 0), 63);
    }

    private static void worthRefuses() {
        JarMinutes x = new JarMinutes();
        Due.due("5: nobody", x.worth(0, 0, 0), JarMinutes.BAD);
        x.person(2, 5, 50);
        int[][] bad = {{-1, 0, 0}, {1, 0, 0}, {8, 0, 0}, {0, -1, 0}, {0, 24, 0}, {0, 0, -1}, {0, 0, 5}};
        for (int[] b : bad) {
            Due.due("5: refused", x.worth(b[0], b[1], b[2]), JarMinutes.BAD);
        }
    }
}
