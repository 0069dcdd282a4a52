/** Promises 23 and 24, each sentence that names an edge: VOTES by HEADS, WEIGHTS, NEED, and for which HOUR one is. */
public final class EdgesVotesTest {
    private static final int HEADS = 0, WEIGHTS = 1, NEED = 2;

    public static void main(String[] args) {
        voteNumbers();
        votesOfNobody();
        headsAreCounted();
        weightsAreTakenTogether();
        needOfAllWhoMayAct();
        likeOnesTheLeastHour();
        bothEndsOfTheDay();
        choiceNumbers();
        choiceForNone();
        choiceOfLikeOnesTheLeast();
        Due.end();
    }

    private static void votes(String town, int heads, int weights, int need) {
        JarMinutes x = new JarMinutes();
        Due.town(x, town);
        Due.due("23: HEADS of '" + town + "'", x.vote(HEADS), heads);
        Due.due("23: WEIGHTS of '" + town + "'", x.vote(WEIGHTS), weights);
        Due.due("23: NEED of '" + town + "'", x.vote(NEED), need);
    }

    // Promise 23: vote

    private static void voteNumbers() {
        Edges.number("23: how", x -> Due.town(x, "c9w5"), 0, 2, (x, v) -> x.vote(v), v -> 9, JarMinutes.BAD);
        Edges.refused("23: BAD ahead of NONE", Edges::nothing, x -> x.vote(3), JarMinutes.BAD);
        Edges.refused("23: BAD ahead of NONE", Edges::nothing, x -> x.vote(-1), JarMinutes.BAD);
    }

    private static void votesOfNobody() {
        for (int how = HEADS; how <= NEED; how++) {
            int by = how;
            Edges.refused("23: NONE: nobody is there, by " + how, Edges::nothing, x -> x.vote(by), JarMinutes.NONE);
            Edges.refused("23: NONE: none may act, by " + how, x -> Due.town(x, "c0w9-,k5w99-"), x -> x.vote(by), JarMinutes.NONE);
            Edges.refused("23: NONE: WORTH 0 to all, by " + how, x -> Due.town(x, "c0w0,l5w0,k6w0,p7w0"), x -> x.vote(by), JarMinutes.NONE);
            Edges.refused("23: NONE: who would be for one may not act, by " + how, x -> Due.town(x, "c0w0,l5w9-"), x -> x.vote(by), JarMinutes.NONE);
        }
        votes("c0w0,c9w1", 9, 9, 9);
    }

    private static void headsAreCounted() {
        votes("c3w99,c9w1,c9w1", 9, 3, 3);
        votes("c3w9,c5w9,c9w1,c9w1,c9w1,c5w1", 9, 5, 5);
        votes("c3w9,c3w9,c3w9-,c9w1,c9w1,c9w1", 9, 3, 3);
        votes("c1w1,c2w1,c3w1,c4w1,c5w1,c6w1,c7w1,c7w1", 7, 7, 7);
        votes("c23w1,c23w1,c23w1,c23w1,c23w1,c23w1,c23w1,c23w1", 23, 23, 23);
    }

    private static void weightsAreTakenTogether() {
        votes("c3w10,c9w6,c9w5", 9, 9, 9);
        votes("c3w11,c9w6,c9w5", 9, 3, 3);
        votes("c3w12,c9w6,c9w5", 9, 3, 3);
        votes("c3w9,c9w9,c9w9-", 3, 3, 3);
        votes("c3w99,c3w99,c3w99,c20w99,c20w99,c20w99,c20w98,c3w97", 3, 20, 20);
    }

    private static void needOfAllWhoMayAct() {
        votes("l5w9,l7w9,c20w17", 4, 20, 6);
        votes("l5w9,l7w9,c20w18", 4, 20, 6);
        votes("l5w9,l7w9,c20w19", 4, 20, 20);
        votes("l5w9,l7w9-,c20w10", 4, 20, 20);
        votes("c5w1,c9w9-,c9w9-", 5, 5, 5);
        votes("p5w9,c7w4", 5, 5, 5);
        votes("k10w10,c12w7", 10, 10, 12);
        votes("k10w10,c12w6", 10, 10, 10);
    }

    private static void likeOnesTheLeastHour() {
        votes("c9w5,c3w5", 3, 3, 3);
        votes("c3w5,c9w5", 3, 3, 3);
        votes("c23w5,c0w5", 0, 0, 0);
        votes("c9w5,c3w4", 3, 9, 9);
        votes("c9w4,c3w3,c9w1,c3w2", 3, 3, 3);
        votes("l12w7", 11, 11, 11);
        votes("l0w7", 0, 0, 0);
        votes("l23w7", 0, 0, 0);
    }

    private static void bothEndsOfTheDay() {
        votes("c0w1", 0, 0, 0);
        votes("c23w1", 23, 23, 23);
        votes("k23w2", 23, 23, 23);
        votes("k0w5,k22w6,l23w2", 0, 0, 22);
        votes("k0w5,k22w5,l23w2", 0, 0, 0);
        votes("k1w5,k23w5,l23w2", 0, 1, 23);
    }

    // Promise 24: choice

    private static void choiceNumbers() {
        Edges.Told eight = x -> Due.town(x, "c9,c8,c7,c6,c5,c4,c3,c23");
        Edges.number("24: person of eight", eight, 0, 7, (x, v) -> x.choice(v), v -> v == 0 ? 9 : 23, JarMinutes.BAD);
        Edges.number("24: person of one", x -> Due.town(x, "p0w1"), 0, 0, (x, v) -> x.choice(v), v -> 0, JarMinutes.BAD);
        Edges.refused("24: nobody is there", Edges::nothing, x -> x.choice(0), JarMinutes.BAD);
    }

    private static void choiceForNone() {
        for (String kind : new String[] {"c", "l", "k", "p"}) {
            Edges.refused("24: NONE: WORTH 0 at all HOURS", x -> Due.town(x, kind + "5w0"), x -> x.choice(0), JarMinutes.NONE);
            Edges.refused("24: NONE: he may not act", x -> Due.town(x, kind + "5w9-"), x -> x.choice(0), JarMinutes.NONE);
            JarMinutes x = new JarMinutes();
            Due.town(x, kind + "5w1");
            int due = kind.equals("l") ? 4 : 5;
            Due.due("24: WORTH 1 at one HOUR", x.choice(0), due);
            x.may(0, 0);
            Due.due("24: NONE: he may act no more", x.choice(0), JarMinutes.NONE);
            x.may(0, 1);
            Due.due("24: he may again", x.choice(0), due);
        }
    }

    private static void choiceOfLikeOnesTheLeast() {
        for (int hour = 0; hour < 24; hour++) {
            JarMinutes x = new JarMinutes();
            Due.town(x, "c" + hour + ",l" + hour + ",k" + hour + "w99,p" + hour + "w99");
            Due.due("24: CLERK of " + hour, x.choice(0), hour);
            Due.due("24: LOVER of " + hour + ", the least of three", x.choice(1), hour == 0 || hour == 23 ? 0 : hour - 1);
            Due.due("24: COOK of " + hour, x.choice(2), hour);
            Due.due("24: PLAYER of " + hour, x.choice(3), hour);
        }
    }
}
