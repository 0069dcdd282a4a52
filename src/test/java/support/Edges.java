import java.util.List;

/** Numbers at their edges, and refused calls: what is refused changes nothing. */
final class Edges {
    static final int LESS = 100000000;

    /** Calls ahead of the one that is looked at. */
    interface Told {
        void to(JarMinutes x);
    }

    interface Call {
        long of(JarMinutes x);
    }

    /** A call with one number at its edges. */
    interface NumberCall {
        long of(JarMinutes x, int v);
    }

    /** What is due of a number that may be. */
    interface Answer {
        long to(int v);
    }

    private Edges() {
    }

    private static JarMinutes object(Told told) {
        JarMinutes x = new JarMinutes();
        told.to(x);
        return x;
    }

    private static void alike(String what, List<String> touched, List<String> untouched) {
        Due.due(what + ": so much is seen", touched.size(), untouched.size());
        for (int i = 0; i < touched.size() && i < untouched.size(); i++) {
            Due.holds(what + " changed: " + touched.get(i) + ", it was: " + untouched.get(i), touched.get(i).equals(untouched.get(i)));
        }
    }

    /** A refused call: its answer, and that an object it went to is like one it did not go to. */
    static void refused(String what, Told told, Call call, long due) {
        JarMinutes touched = object(told);
        Due.due(what, call.of(touched), due);
        alike(what, Seen.of(touched), Seen.of(object(told)));
    }

    /** A refused call that changes what it is told to: an object that was told so ahead is like it then. */
    static void refusedBut(String what, Told told, Told toldSo, Call call, long due) {
        JarMinutes touched = object(told);
        Due.due(what, call.of(touched), due);
        alike(what, Seen.of(touched), Seen.of(object(toldSo)));
    }

    /** A refused call to an object that has few calls left. */
    static void refusedLate(String what, Told told, Call call, long due) {
        JarMinutes touched = object(told);
        Due.due(what, call.of(touched), due);
        alike(what, Seen.fewOf(touched), Seen.fewOf(object(told)));
    }

    /** A number: the least and the most that it may be are taken, one below, one above and far ones are refused. */
    static void number(String what, Told told, int least, int most, NumberCall call, Answer due, long refusal) {
        for (int v : new int[] {least, most}) {
            Due.due(what + " " + v, call.of(object(told), v), due.to(v));
        }
        refusedBelow(what, told, least, call, refusal);
        refusedAbove(what, told, most, call, refusal);
    }

    static void refusedBelow(String what, Told told, int least, NumberCall call, long refusal) {
        for (int v : new int[] {least - 1, least - 256, Integer.MIN_VALUE}) {
            refused(what + " " + v, told, x -> call.of(x, v), refusal);
        }
    }

    static void refusedAbove(String what, Told told, int most, NumberCall call, long refusal) {
        for (int v : new int[] {most + 1, most + 256, Integer.MAX_VALUE}) {
            refused(what + " " + v, told, x -> call.of(x, v), refusal);
        }
    }

    /** A town with something of all: 60 calls or so. */
    static void rich(JarMinutes x) {
        Due.town(x, "c8w10,l21w7-,k12w9,p15w8");
        x.train(9, 14);
        x.train(20, 3);
        x.loss(9, 4);
        x.set(1, 50);
        x.set(2, 40);
        x.set(3, 7);
        x.seed(4711);
        Due.plan(x, "8+3,9-1,23+1");
        x.day();
        x.image();
        x.set(0, 20);
        x.may(2, 0);
        x.train(5, 60);
        x.loss(3, 33);
        x.seed(815);
        x.lots(1);
        richSheets(x);
        x.lay(0, 5);
        x.lay(7, -2);
        Due.typed(x, "5+4,6-1");
    }

    /** A row of each LANE: bytes and ints that can be a PLAN or CLOCKS, few longs. */
    private static void richSheets(JarMinutes x) {
        x.sheet(0, 0, 24);
        x.film(0, 0, 0);
        x.lay(1, 1);
        x.sheet(1, 1, 24);
        x.film(1, 1, 0);
        x.item(1, 1, 0, 5);
        x.item(1, 1, 1, 4);
        x.sheet(2, 2, 6);
        x.item(2, 2, 0, 3);
        x.item(2, 2, 1, 2);
        x.item(2, 2, 2, 24);
        x.item(2, 2, 3, 40);
        x.item(2, 2, 4, -3);
    }

    static void nothing(JarMinutes x) {
        // a new object is what is looked at
    }
}
