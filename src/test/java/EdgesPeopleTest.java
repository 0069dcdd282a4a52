/** Promises 1 to 5, each sentence that names an edge: a new object, PEOPLE, APART, WORTH by KINDS. */
public final class EdgesPeopleTest {
    private static final int CLERK = 0, LOVER = 1, COOK = 2, PLAYER = 3;

    public static void main(String[] args) {
        elevenMinutesNobody();
        allIsEmptyAtFirst();
        personNumbers();
        personFull();
        numbersAsTheyCome();
        allMayActAtFirst();
        mayNumbers();
        mayAnswersWhatItWas();
        toldNumbers();
        worthNumbers();
        apartOverMidnight();
        apartTwelveAtMost();
        clerkElseNothing();
        loverOneApartAtMost();
        cookNothingAtLeast();
        playerHalvesAreCut();
        Due.end();
    }

    private static void people(JarMinutes x, int n) {
        for (int i = 0; i < n; i++) {
            x.person(COOK, 12, 40 + i);
        }
    }

    // Promise 1: eleven minutes, nobody

    private static void elevenMinutesNobody() {
        JarMinutes x = new JarMinutes();
        Due.due("1: eleven minutes", x.is(0), 11);
        Due.due("1: nobody", x.is(4), 0);
        Due.due("1: no train", x.is(5), 0);
        Due.due("1: no day", x.is(6), 0);
        Due.due("1: no happiness", x.is(7), 0);
        Due.due("1: nobody is told", x.told(0, 0), JarMinutes.BAD);
        Due.due("1: no train to strike", x.strike(), JarMinutes.NONE);
    }

    private static void allIsEmptyAtFirst() {
        JarMinutes x = new JarMinutes();
        Due.due("1: LEAK is never at first", x.is(1), 0);
        Due.due("1: TERM is never at first", x.is(2), 0);
        Due.due("1: DUE is 1 at first", x.is(3), 1);
        for (int hour = 0; hour < 24; hour++) {
            Due.due("1: LOSS is 5 at first at " + hour, x.loss(hour, 9), 5);
            Due.due("1: the PLAN is 0 at first at " + hour, x.lay(hour, 1), 0);
        }
        Due.due("1: THE DRAW is 1 at first", x.seed(3), 1);
        Due.due("1: THE TAPE is empty at first", x.type('x', 1), 1);
        Due.due("1: there is no IMAGE at first", x.restore(), JarMinutes.NONE);
        for (int sheet = 0; sheet < 4; sheet++) {
            Due.due("1: SHEET " + sheet + " holds nothing at first", x.drop(sheet), JarMinutes.NULL);
        }
    }

    // Promise 2: person

    private static void personNumbers() {
        Edges.Told rich = Edges::rich;
        Edges.number("2: KIND", rich, 0, 3, (x, v) -> x.person(v, 5, 6), v -> 4, JarMinutes.BAD);
        Edges.number("2: HOUR", rich, 0, 23, (x, v) -> x.person(COOK, v, 6), v -> 4, JarMinutes.BAD);
        Edges.number("2: WEIGHT", rich, 0, 99, (x, v) -> x.person(COOK, 5, v), v -> 4, JarMinutes.BAD);
        for (int kind = 0; kind <= 3; kind++) {
            toldAsCome(kind, 0, 0);
            toldAsCome(kind, 23, 99);
        }
    }

    private static void toldAsCome(int kind, int hour, int weight) {
        JarMinutes x = new JarMinutes();
        x.person(kind, hour, weight);
        int[] due = {kind, hour, weight, 1};
        for (int what = 0; what < 4; what++) {
            Due.due("2: told as come, " + kind + " " + hour + " " + weight, x.told(0, what), due[what]);
        }
    }

    private static void personFull() {
        JarMinutes x = new JarMinutes();
        people(x, 7);
        Due.due("2: the eighth is taken", x.person(CLERK, 1, 1), 7);
        Due.due("2: FULL: 8", x.is(4), 8);
        Edges.Told full = o -> people(o, 8);
        Edges.refused("2: the ninth is refused", full, o -> o.person(CLERK, 1, 1), JarMinutes.FULL);
        Edges.refused("2: FULL behind a TOWN of 8", o -> Due.town(o, "c1,c2,c3,c4,c5,c6,c7,c8"), o -> o.person(CLERK, 1, 1), JarMinutes.FULL);
        Edges.refused("2: BAD ahead of FULL, KIND", full, o -> o.person(4, 1, 1), JarMinutes.BAD);
        Edges.refused("2: BAD ahead of FULL, HOUR", full, o -> o.person(CLERK, 24, 1), JarMinutes.BAD);
        Edges.refused("2: BAD ahead of FULL, WEIGHT", full, o -> o.person(CLERK, 1, 100), JarMinutes.BAD);
    }

    private static void numbersAsTheyCome() {
        JarMinutes x = new JarMinutes();
        for (int i = 0; i < 8; i++) {
            Due.due("2: PEOPLE 0 .. 7, as they come", x.person(i % 4, 3 * i, 10 * i), i);
        }
        for (int i = 0; i < 8; i++) {
            Due.due("2: KIND of " + i, x.told(i, 0), i % 4);
            Due.due("2: HOUR of " + i, x.told(i, 1), 3 * i);
            Due.due("2: WEIGHT of " + i, x.told(i, 2), 10 * i);
        }
        Due.town(x, "c1,c2,c3");
        Due.due("2: behind a TOWN of three", x.person(COOK, 4, 4), 3);
        Due.due("2: he is told", x.told(3, 2), 4);
    }

    private static void allMayActAtFirst() {
        JarMinutes x = new JarMinutes();
        x.image();
        x.person(CLERK, 8, 10);
        Due.due("2: MAY act at first", x.told(0, 3), 1);
        x.may(0, 0);
        x.restore();
        Due.due("2: another one in place of who may not", x.person(CLERK, 8, 10), 0);
        Due.due("2: he MAY act at first", x.told(0, 3), 1);
    }

    // Promises 3 and 4: may, told

    private static void mayNumbers() {
        Edges.number("3: may of person", Edges::rich, 0, 3, (x, v) -> x.may(v, 1), v -> v == 0 || v == 3 ? 1 : 0, JarMinutes.BAD);
        Edges.number("3: may is", Edges::rich, 0, 1, (x, v) -> x.may(3, v), v -> 1, JarMinutes.BAD);
        Edges.number("3: may of the eighth", o -> people(o, 8), 0, 7, (x, v) -> x.may(v, 0), v -> 1, JarMinutes.BAD);
        Edges.refused("3: nobody is there", Edges::nothing, x -> x.may(0, 1), JarMinutes.BAD);
    }

    private static void mayAnswersWhatItWas() {
        JarMinutes x = new JarMinutes();
        people(x, 2);
        int[] is = {1, 0, 0, 1, 1, 0};
        int was = 1;
        for (int v : is) {
            Due.due("3: what it was", x.may(1, v), was);
            Due.due("3: told so", x.told(1, 3), v);
            Due.due("3: the other one's stays", x.told(0, 3), 1);
            was = v;
        }
    }

    private static void toldNumbers() {
        int[] last = {PLAYER, 15, 8, 1};
        Edges.number("4: told what", Edges::rich, 0, 3, (x, v) -> x.told(3, v), v -> last[v], JarMinutes.BAD);
        Edges.number("4: told of person", Edges::rich, 0, 3, (x, v) -> x.told(v, 2), v -> v == 0 ? 10 : 8, JarMinutes.BAD);
        Edges.number("4: told of the eighth", o -> people(o, 8), 0, 7, (x, v) -> x.told(v, 2), v -> 40 + v, JarMinutes.BAD);
        Edges.refused("4: nobody is there", Edges::nothing, x -> x.told(0, 0), JarMinutes.BAD);
    }

    // Promise 5: worth

    private static void worthNumbers() {
        Edges.number("5: worth to person", Edges::rich, 0, 3, (x, v) -> x.worth(v, 10, 0), v -> 0, JarMinutes.BAD);
        Edges.number("5: worth to the eighth", o -> people(o, 8), 0, 7, (x, v) -> x.worth(v, 12, 0), v -> 40 + v, JarMinutes.BAD);
        Edges.number("5: worth at HOUR", o -> people(o, 1), 0, 23, (x, v) -> x.worth(0, v, 0), v -> v == 0 ? 4 : 7, JarMinutes.BAD);
        Edges.number("5: worth of the k-th", Edges::rich, 0, 4, (x, v) -> x.worth(3, 15, v), v -> v == 0 ? 8 : 0, JarMinutes.BAD);
        Edges.refused("5: nobody is there", Edges::nothing, x -> x.worth(0, 0, 0), JarMinutes.BAD);
    }

    /** The way round the clock by steps, as far as both ways go. */
    private static int steps(int from, int to) {
        int on = 0;
        for (int h = from; h != to; h = h == 23 ? 0 : h + 1) {
            on++;
        }
        return Math.min(on, 24 - on);
    }

    private static void apartOverMidnight() {
        for (int liked = 0; liked < 24; liked++) {
            JarMinutes x = new JarMinutes();
            x.person(COOK, liked, 99);
            for (int hour = 0; hour < 24; hour++) {
                Due.due("5: so far APART are " + liked + ", " + hour, (99 - x.worth(0, hour, 0)) / 3, steps(liked, hour));
            }
        }
    }

    private static void apartTwelveAtMost() {
        JarMinutes x = new JarMinutes();
        x.person(COOK, 0, 99);
        Due.due("5: 11 APART, on", x.worth(0, 11, 0), 66);
        Due.due("5: 12 APART", x.worth(0, 12, 0), 63);
        Due.due("5: 11 APART, back", x.worth(0, 13, 0), 66);
        Due.due("5: 1 APART over midnight", x.worth(0, 23, 0), 96);
    }

    private static void clerkElseNothing() {
        for (int liked : new int[] {0, 8, 23}) {
            JarMinutes x = new JarMinutes();
            x.person(CLERK, liked, 99);
            for (int k = 0; k < 5; k++) {
                Due.due("5: CLERK's liked HOUR", x.worth(0, liked, k), 99);
                Due.due("5: CLERK, one on", x.worth(0, (liked + 1) % 24, k), 0);
                Due.due("5: CLERK, one back", x.worth(0, (liked + 23) % 24, k), 0);
            }
        }
    }

    private static void loverOneApartAtMost() {
        for (int liked : new int[] {0, 1, 12, 22, 23}) {
            JarMinutes x = new JarMinutes();
            x.person(LOVER, liked, 7);
            for (int k = 0; k < 5; k++) {
                for (int way = -2; way <= 2; way++) {
                    int due = Math.abs(way) == 2 ? 0 : 7;
                    Due.due("5: LOVER of " + liked + ", " + way + " on", x.worth(0, (liked + way + 24) % 24, k), due);
                }
            }
        }
    }

    private static void cookNothingAtLeast() {
        int[][] rows = {{5, 2, 0}, {6, 3, 0}, {7, 4, 1}, {0, 0, 0}, {1, 0, 0}, {3, 0, 0}, {4, 1, 0}};
        for (int[] row : rows) {
            for (int kind = COOK; kind <= PLAYER; kind++) {
                JarMinutes x = new JarMinutes();
                x.person(kind, 23, row[0]);
                for (int way = 0; way < 3; way++) {
                    Due.due("5: of WEIGHT " + row[0] + ", " + way + " APART", x.worth(0, (23 + way) % 24, 0), row[way]);
                }
            }
        }
        JarMinutes x = new JarMinutes();
        x.person(COOK, 5, 35);
        Due.due("5: 11 APART of 35", x.worth(0, 16, 0), 2);
        Due.due("5: 12 APART of 35: 0 at least", x.worth(0, 17, 0), 0);
        Due.due("5: a COOK's fifth is as his first", x.worth(0, 5, 4), 35);
    }

    private static void playerHalvesAreCut() {
        int[][] rows = {{99, 49, 24, 12, 6}, {31, 15, 7, 3, 1}, {16, 8, 4, 2, 1}, {15, 7, 3, 1, 0}, {1, 0, 0, 0, 0}, {0, 0, 0, 0, 0}};
        for (int[] row : rows) {
            JarMinutes x = new JarMinutes();
            x.person(PLAYER, 12, row[0]);
            for (int k = 0; k < 5; k++) {
                Due.due("5: PLAYER of " + row[0] + ", " + k, x.worth(0, 12, k), row[k]);
            }
        }
        JarMinutes x = new JarMinutes();
        x.person(PLAYER, 12, 34);
        Due.due("5: below COOK: as a COOK the first one", x.worth(0, 13, 0), 31);
        Due.due("5: half of that, cut", x.worth(0, 13, 1), 15);
    }
}
