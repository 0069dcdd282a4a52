import java.util.ArrayList;
import java.util.List;

/** All that can be seen of an object, by calls that end it for any other use: 350 calls at most. */
final class Seen {
    private final JarMinutes x;
    private final List<String> answers = new ArrayList<>();

    private Seen(JarMinutes x) {
        this.x = x;
    }

    /** The object as it is, THE TAPE, the SHEETS, the IMAGE. */
    static List<String> of(JarMinutes x) {
        Seen s = new Seen(x);
        s.town("now");
        s.tape();
        s.sheets();
        s.see("restore", x.restore());
        s.town("image");
        return s.answers;
    }

    /** What a DAY changes, for objects that have few calls left: 60 calls. */
    static List<String> fewOf(JarMinutes x) {
        Seen s = new Seen(x);
        s.settings("now");
        s.plan("now");
        s.see("draw", x.seed(0));
        return s.answers;
    }

    private void see(String what, long answer) {
        answers.add(what + " = " + answer);
    }

    private void settings(String when) {
        for (int what = 0; what < 8; what++) {
            see(when + " is " + what, x.is(what));
        }
    }

    private void plan(String when) {
        for (int hour = 0; hour < 24; hour++) {
            see(when + " late at " + (hour + 1), x.late(hour + 1));
        }
        see(when + " missed", x.missed());
        see(when + " wrong", x.wrong());
    }

    private void town(String when) {
        settings(when);
        plan(when);
        for (int person = 0; person < x.is(4); person++) {
            for (int what = 0; what < 4; what++) {
                see(when + " told " + person + " " + what, x.told(person, what));
            }
        }
        for (int hour = 0; hour < 24; hour++) {
            see(when + " loss " + hour, x.loss(hour, 5));
        }
        see(when + " draw", x.seed(0));
    }

    /** How many bytes, and whether they are a PLAN. */
    private void tape() {
        see("tape", x.type(' ', 1));
        see("tape's plan", x.plan());
        plan("tape's");
    }

    private void sheets() {
        for (int sheet = 0; sheet < 4; sheet++) {
            for (int lane = 0; lane < 3; lane++) {
                see("sheet " + sheet + " as a plan of lane " + lane, x.build(sheet, lane, 0));
                see("sheet " + sheet + " as clocks of lane " + lane, x.clocks(sheet, lane, 0, 2));
            }
            plan("sheet " + sheet + "'s");
            see("items of sheet " + sheet, x.drop(sheet));
        }
    }
}
