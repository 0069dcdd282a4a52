/** What the document says ahead of its promises: refusals, answers below 0, calls that only tell, 512 calls of an object. */
public final class EdgesTermsTest {
    private static final int LESS = Edges.LESS;

    public static void main(String[] args) {
        refusalsAreNumbers();
        lessWhereAnAnswerMayBeBelowNothing();
        answersBelowNothing();
        tellingChangesNothing();
        fiveHundredAndTwelveCalls();
        twoObjects();
        Due.end();
    }

    private static void refusalsAreNumbers() {
        JarMinutes x = new JarMinutes();
        Due.due("BAD is -1", x.person(4, 0, 0), -1);
        Due.due("NONE is -4", x.strike(), -4);
        Due.due("NULL is -11", x.drop(0), -11);
        x.sheet(0, 1, 2);
        Due.due("CAST is -12", x.item(0, 0, 0, 0), -12);
        Due.due("INDEX is -13", x.item(0, 1, 2, 0), -13);
        Due.due("SIZE is -14", x.sheet(0, 1, -1), -14);
        x.item(0, 1, 0, 25);
        Due.due("NOT is -2", x.clocks(0, 1, 0, 1), -2);
        for (int i = 0; i < 6; i++) {
            x.train(0, 0);
        }
        Due.due("FULL is -3", x.train(0, 0), -3);
    }

    private static void lessWhereAnAnswerMayBeBelowNothing() {
        JarMinutes x = new JarMinutes();
        Due.due("13: BAD", x.lay(24, 0), -100000001);
        Due.due("14: BAD", x.is(8), -100000001);
        Due.due("15: BAD", x.late(25), -100000001);
        Due.due("20: BAD", x.best(2, 0), -100000001);
        Due.due("21: BAD", x.spend(0), -100000001);
        Due.due("25: BAD", x.lots(0), -100000001);
        Due.due("32: BAD", x.build(4, 0, 0), -100000001);
        Due.due("32: NULL", x.build(0, 0, 0), -100000011);
        x.sheet(0, 1, 24);
        Due.due("32: CAST", x.build(0, 0, 0), -100000012);
        Due.due("32: INDEX", x.build(0, 1, 1), -100000013);
        x.item(0, 1, 0, 6);
        Due.due("32: NOT", x.build(0, 1, 0), -100000002);
        x.lay(0, -1);
        Due.due("19: NOT", x.day(), -100000002);
        x.lay(0, 0);
        for (int i = 0; i < 333; i++) {
            x.spend(30);
        }
        x.spend(9);
        Due.due("19: FULL", x.day(), -100000003);
        Due.due("21: FULL", x.spend(1), -100000003);
        Due.due("25: FULL", x.lots(1), -100000003);
    }

    private static void answersBelowNothing() {
        JarMinutes x = new JarMinutes();
        for (int hour = 0; hour < 24; hour++) {
            x.loss(hour, 99);
        }
        x.lay(5, 2);
        x.lay(6, -2);
        Due.due("13: lay answers what it was, below 0", x.lay(6, -2), -2);
        Due.due("16: GAIN below 0", x.gain(), -198);
        Due.due("19: a DAY's GAIN below 0", x.day(), -198);
        Due.due("14: HAPPINESS below 0", x.is(7), -198);
        x.sheet(0, 1, 24);
        x.film(0, 1, 0);
        Due.due("32: GAIN below 0", x.build(0, 1, 0), -198);
        int happiness = x.is(7);
        int gain = x.lots(30);
        Due.holds("25: GAINS below 0: " + gain, gain < 0 && gain > -LESS && gain % 99 == 0);
        Due.due("14: HAPPINESS by them", x.is(7), happiness + gain);
        x.lay(5, 0);
        Due.due("15: LATE below 0", x.late(24), -2);
        Due.due("20: a BEST number below 0", bestBelowNothing(), -2);
    }

    private static int bestBelowNothing() {
        JarMinutes x = new JarMinutes();
        Due.town(x, "c2w99,c4w99");
        x.set(0, 5);
        return x.best(0, 3);
    }

    /** Such a call: what it answers on a rich town, and that nothing is changed by it. */
    private static void tells(String what, Edges.Call call) {
        JarMinutes x = new JarMinutes();
        Edges.rich(x);
        long first = call.of(x);
        Due.due(what + " tells the same again", call.of(x), first);
        Edges.refused(what + " only tells", Edges::rich, call, first);
    }

    private static void tellingChangesNothing() {
        tells("4: told", x -> x.told(1, 2));
        tells("5: worth", x -> x.worth(3, 15, 2));
        tells("14: is", x -> x.is(7));
        tells("15: late", x -> x.late(24));
        tells("16: gain", x -> x.gain());
        tells("17: wrong", x -> x.wrong());
        tells("18: missed", x -> x.missed());
        tells("20: best", x -> x.best(0, -1));
        tells("20: end", x -> x.best(1, 8));
        tells("22: share", x -> x.share(0));
        tells("22: share of one who may not act", x -> x.share(1));
        tells("23: vote", x -> x.vote(2));
        tells("24: choice", x -> x.choice(3));
        tells("29: clocks", x -> x.clocks(2, 2, 0, 2));
        tells("30: sure", x -> x.sure(1, 2, 2, 0, 2));
    }

    private static void fiveHundredAndTwelveCalls() {
        JarMinutes x = new JarMinutes();
        for (int call = 1; call <= 512; call++) {
            Due.due("call " + call, x.lay(call % 24, call % 8 - 2), call <= 24 ? 0 : (call - 24) % 8 - 2);
        }
        JarMinutes y = new JarMinutes();
        y.person(0, 5, 9);
        for (int call = 2; call < 512; call += 2) {
            Due.due("an IMAGE in call " + call, y.image(), 1);
            Due.due("restored in call " + (call + 1), y.restore(), 1);
        }
        Due.due("call 512", y.best(0, 5), 5);
    }

    private static void twoObjects() {
        JarMinutes x = new JarMinutes();
        JarMinutes y = new JarMinutes();
        Edges.rich(x);
        Due.holds("what is told to one object is nothing to another", Seen.of(y).equals(Seen.of(new JarMinutes())));
        Due.due("they are two", x.is(4), 4);
    }
}
