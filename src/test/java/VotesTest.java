/** Promises 23 and 24: VOTES and choices. */
public final class VotesTest {
    public static void main(String[] args) {
        choices();
        votes();
        likeVotes();
        refused();
        Due.end();
    }

    private static void choices() {
        JarMinutes x = new JarMinutes();
        Due.due("24: nobody", x.choice(0), JarMinutes.BAD);
        Due.town(x, "c8,l0,l23,l1,k20w2,p5w9,c4w0,k4w0");
        int[] due = {8, 0, 0, 0, 20, 5, JarMinutes.NONE, JarMinutes.NONE};
        for (int i = 0; i < 8; i++) {
            Due.due("24: choice " + i, x.choice(i), due[i]);
        }
        x.may(0, 0);
        Due.due("24: may not act", x.choice(0), JarMinutes.NONE);
        x.may(0, 1);
        Due.due("24: may act", x.choice(0), 8);
        Due.due("24: refused", x.choice(8), JarMinutes.BAD);
        Due.due("24: refused", x.choice(-1), JarMinutes.BAD);
        Due.town(x, "l12");
        Due.due("24: of like ones the least", x.choice(0), 11);
        Due.due("24: not there any more", x.choice(1), JarMinutes.BAD);
    }

    private static void votes() {
        JarMinutes x = new JarMinutes();
        for (int how = 0; how < 3; how++) {
            Due.due("23: nobody", x.vote(how), JarMinutes.NONE);
        }
        Due.town(x, "c3w1,c3w1,c3w1,c9w20,k12w18,k14w18");
        Due.due("23: heads", x.vote(0), 3);
        Due.due("23: weights", x.vote(1), 9);
        Due.due("23: need", x.vote(2), 9);
        x.may(3, 0);
        Due.due("23: weights without him", x.vote(1), 12);
        Due.due("23: need without him", x.vote(2), 12);
        x.may(0, 0);
        x.may(1, 0);
        x.may(2, 0);
        Due.due("23: heads without them", x.vote(0), 12);
        x.may(4, 0);
        Due.due("23: one is left", x.vote(0), 14);
        Due.due("23: one is left", x.vote(1), 14);
        Due.due("23: one is left", x.vote(2), 14);
        x.may(5, 0);
        for (int how = 0; how < 3; how++) {
            Due.due("23: none may act", x.vote(how), JarMinutes.NONE);
        }
        Due.town(x, "c8w0,k9w0,l0w0");
        for (int how = 0; how < 3; how++) {
            Due.due("23: for none", x.vote(how), JarMinutes.NONE);
        }
    }

    private static void likeVotes() {
        JarMinutes x = new JarMinutes();
        Due.town(x, "c20w6,c4w6");
        for (int how = 0; how < 3; how++) {
            Due.due("23: of like ones the least", x.vote(how), 4);
        }
        Due.town(x, "k10w30,k14w30,c23w46");
        Due.due("23: need: 46 and 3 of who likes 14", x.vote(2), 23);
        Due.town(x, "k10w30,k14w30,c23w45");
        Due.due("23: need: 48 at 10, 11 .. 14, 23", x.vote(2), 10);
        Due.town(x, "l5w9,l7w9,c20w10");
        Due.due("23: hour 6 for both lovers", x.vote(2), 6);
        Due.due("23: but they are for others", x.vote(0), 4);
        Due.due("23: the weightiest", x.vote(1), 20);
        Due.town(x, "p5w9,c7w5");
        Due.due("23: the 0th minute is worth 9", x.vote(2), 5);
        Due.town(x, "p5w1");
        Due.due("24: the 0th minute is worth 1", x.choice(0), 5);
        Due.town(x, "p5w9");
        x.lay(5, 3);
        Due.due("23: the 0th minute, whatever is laid", x.vote(2), 5);
    }

    private static void refused() {
        JarMinutes x = new JarMinutes();
        Due.town(x, "c0");
        Due.due("23: hour 0", x.vote(0), 0);
        Due.due("23: refused", x.vote(-1), JarMinutes.BAD);
        Due.due("23: refused", x.vote(3), JarMinutes.BAD);
    }
}
