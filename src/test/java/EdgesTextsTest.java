/** Promises 10 to 12, each sentence that names an edge: THE TAPE, TOWNS and PLANS as texts, their FAULTS with their places. */
public final class EdgesTextsTest {
    private static final String FIGURES = "0123456789";
    private static final String ALL_HOURS = "23+0,22+1,21+2,20+3,19+4,18+5,17-0,16-1,15-2,14+0,13+1,12+2,11+3,10+4,9+5,8-0,7-1,6-2,5+0,4+1,3+2,2+3,1+4,0+5";

    public static void main(String[] args) {
        typeNumbers();
        typeBytes();
        typeLowestBytesHighestFirst();
        typeFull();
        typeBadAheadOfFull();
        tapeIsEmptyThen();
        townOfOneToEight();
        townNumbers();
        townWhatIsNotTold();
        townInPlaceOfAll();
        townFaultChangesNothing();
        townBytesThatCanStand();
        townFaultAtTheEnd();
        townFaultOfNumbers();
        planOfNoneToAll();
        planNumbers();
        planWhereNoneIsTold();
        planFaultChangesNothing();
        planBytesThatCanStand();
        planFaultAtTheEnd();
        planFaultOfNumbers();
        planHourToldTwice();
        blanksEndANumber();
        zerosAhead();
        wholeTape();
        Due.end();
    }

    private static void fill(JarMinutes x, int n) {
        for (int left = n; left > 0; left -= 8) {
            x.type(Due.packed("        "), Math.min(left, 8));
        }
    }

    private static String times(String s, int n) {
        return s.repeat(n);
    }

    private static void town(String text, long due) {
        JarMinutes x = new JarMinutes();
        Due.due("11: '" + text + "'", Due.town(x, text), due);
    }

    private static void plan(String text, long due) {
        JarMinutes x = new JarMinutes();
        Due.due("12: '" + text + "'", Due.plan(x, text), due);
    }

    // Promise 10: type

    private static void typeNumbers() {
        long w = Due.packed("5+1,6+2,");
        Edges.number("10: n", Edges::nothing, 1, 8, (x, v) -> x.type(w, v), v -> v, JarMinutes.BAD);
        Edges.number("10: n behind a text", Edges::rich, 1, 8, (x, v) -> x.type(w, v), v -> 7 + v, JarMinutes.BAD);
    }

    private static void typeBytes() {
        for (int place = 0; place < 8; place++) {
            long others = Due.packed("        ") & ~(255L << 8 * place);
            for (int b : new int[] {32, 33, 125, 126}) {
                Due.due("10: a byte " + b + " at " + place, new JarMinutes().type(others | (long) b << 8 * place, 8), 8);
            }
            for (int b : new int[] {0, 1, 31, 127, 128, 160, 255}) {
                long w = others | (long) b << 8 * place;
                int least = place + 1;
                Edges.refused("10: no byte is " + b + " at " + place, Edges::rich, x -> x.type(w, 8), JarMinutes.BAD);
                Edges.refused("10: no byte is " + b + ", the highest of " + least, Edges::rich, x -> x.type(w, least), JarMinutes.BAD);
            }
        }
    }

    private static void typeLowestBytesHighestFirst() {
        for (int n = 1; n < 8; n++) {
            JarMinutes x = new JarMinutes();
            long w = Due.packed("5+1,6+23") >>> 8 * (8 - n) | -1L << 8 * n;
            Due.due("10: what stands above the n lowest counts for nothing", x.type(w, n), n);
        }
        JarMinutes x = new JarMinutes();
        x.type(Due.packed("9+1,6+23") & 0xFFFFFFL, 2);
        Due.due("12: of these the highest first: 2 ahead of 3", x.plan(), -22);
        x.type(Due.packed("23"), 2);
        x.type(Due.packed("+4"), 2);
        Due.due("10: they come behind THE TAPE", x.type(Due.packed(",0-1"), 4), 8);
        Due.due("12: that is a PLAN of two", x.plan(), 2);
        Due.due("12: of 23", x.lay(23, 0), 4);
        Due.due("12: of 0", x.lay(0, 0), -1);
    }

    private static void typeFull() {
        for (int n = 1; n <= 8; n++) {
            int length = n;
            long w = Due.packed("        ");
            JarMinutes x = new JarMinutes();
            fill(x, 140 - n);
            Due.due("10: " + n + " up to 140", x.type(w, n), 140);
            Edges.refused("10: " + n + " up to 141", o -> fill(o, 141 - length), o -> o.type(w, length), JarMinutes.FULL);
            Edges.refused("10: " + n + " behind 140", o -> fill(o, 140), o -> o.type(w, length), JarMinutes.FULL);
        }
    }

    private static void typeBadAheadOfFull() {
        Edges.Told full = x -> fill(x, 140);
        Edges.refused("10: BAD ahead of FULL: n 0", full, x -> x.type(32, 0), JarMinutes.BAD);
        Edges.refused("10: BAD ahead of FULL: n 9", full, x -> x.type(Due.packed("        "), 9), JarMinutes.BAD);
        Edges.refused("10: BAD ahead of FULL: a byte 31", full, x -> x.type(31, 1), JarMinutes.BAD);
        Edges.refused("10: BAD ahead of FULL: a byte 127", full, x -> x.type(127, 1), JarMinutes.BAD);
    }

    private static void tapeIsEmptyThen() {
        String[] texts = {"", "c8", "c24", "8+1", "8+9", "x"};
        for (String text : texts) {
            JarMinutes x = new JarMinutes();
            Due.town(x, text);
            Due.due("11: THE TAPE is empty behind town of '" + text + "'", x.type(' ', 1), 1);
            Due.plan(x, "");
            Due.typed(x, text);
            x.plan();
            Due.due("12: THE TAPE is empty behind plan of '" + text + "'", x.type(' ', 1), 1);
        }
    }

    // Promise 11: town

    private static void townOfOneToEight() {
        town("", -20);
        town("c1", 1);
        town("c1,c2,c3,c4,c5,c6,c7", 7);
        town("c1,c2,c3,c4,c5,c6,c7,c8", 8);
        town("c1,c2,c3,c4,c5,c6,c7,c8,c9", -43);
        town("c1,c2,c3,c4,c5,c6,c7,c8,", -43);
        town("c1,c2,c3,c4,c5,c6,c7,c8 ,c9", -44);
        town("c1,c2,c3,c4,c5,c6,c7,c8c9", -43);
        town("c1,c2,c3,c4,c5,c6,c7,", -41);
        town("l1,k1,p1,c1,l1,k1,p1,c1  ", 8);
    }

    private static void oneTold(String text, int kind, int hour, int weight, int may) {
        JarMinutes x = new JarMinutes();
        Due.due("11: '" + text + "'", Due.town(x, text), 1);
        int[] due = {kind, hour, weight, may};
        for (int what = 0; what < 4; what++) {
            Due.due("11: '" + text + "' told " + what, x.told(0, what), due[what]);
        }
    }

    private static void townNumbers() {
        oneTold("c0w0", 0, 0, 0, 1);
        oneTold("l23w99", 1, 23, 99, 1);
        oneTold("k00w00-", 2, 0, 0, 0);
        oneTold("p23w99-", 3, 23, 99, 0);
        town("c24", -21);
        town("c23w100", -24);
        for (int v = 0; v <= 23; v++) {
            oneTold("k" + v, 2, v, 1, 1);
        }
        for (int v = 0; v <= 99; v++) {
            oneTold("p7w" + v, 3, 7, v, 1);
        }
    }

    private static void townWhatIsNotTold() {
        oneTold("c8", 0, 8, 1, 1);
        oneTold("c8-", 0, 8, 1, 0);
        oneTold("c8w1", 0, 8, 1, 1);
        JarMinutes x = new JarMinutes();
        Due.town(x, "c8w50-,c8,c8w0");
        Due.due("11: the WEIGHT ahead is not kept", x.told(1, 2), 1);
        Due.due("11: nor is it that he may not act", x.told(1, 3), 1);
        Due.due("11: a WEIGHT 0 is told", x.told(2, 2), 0);
    }

    private static void townInPlaceOfAll() {
        JarMinutes x = new JarMinutes();
        Due.town(x, "c1w9-,c2w9-,c3w9-,c4w9-,c5w9-,c6w9-,c7w9-,c8w9-");
        Due.due("11: one in place of eight", Due.town(x, "l5"), 1);
        Due.due("11: how many", x.is(4), 1);
        Due.due("11: the second one is no more", x.told(1, 0), JarMinutes.BAD);
        Due.due("11: the first one may act", x.told(0, 3), 1);
        Due.due("11: another one", x.person(3, 9, 9), 1);
        Due.due("11: he may act too", x.told(1, 3), 1);
    }

    private static void townFaultChangesNothing() {
        String[] texts = {"", "   ", "x", "c", "c24", "c8w", "c8w100", "c8,", "c8,c24", "l1w2-,k3w4,x", "c1,c2,c3,c4,c5,c6,c7,c8,"};
        int[] due = {-20, -23, -20, -21, -21, -23, -23, -23, -24, -31, -43};
        for (int i = 0; i < texts.length; i++) {
            String text = texts[i];
            Edges.Told typed = x -> {
                Edges.rich(x);
                x.plan();
                Due.typed(x, text);
            };
            // THE TAPE is empty then, whatever is answered: the other one's is emptied by hand
            Edges.Told emptied = x -> {
                Edges.rich(x);
                x.plan();
            };
            Edges.refusedBut("11: those told stay: '" + text + "'", typed, emptied, x -> x.town(), due[i]);
        }
    }

    /** Each byte behind what stands there: the allowed ones are no FAULT at their place, all others are (figures: of their number). */
    private static void afterTown(String ahead, String allowed, int figuresPlace) {
        for (char b = 32; b <= 126; b++) {
            JarMinutes x = new JarMinutes();
            int answer = Due.town(x, ahead + b);
            boundByte("11: '" + ahead + b + "'", answer, ahead.length(), b, allowed, figuresPlace);
        }
    }

    private static void afterPlan(String ahead, String allowed, int figuresPlace) {
        for (char b = 32; b <= 126; b++) {
            JarMinutes x = new JarMinutes();
            int answer = Due.plan(x, ahead + b);
            boundByte("12: '" + ahead + b + "'", answer, ahead.length(), b, allowed, figuresPlace);
        }
    }

    private static void boundByte(String what, int answer, int place, char b, String allowed, int figuresPlace) {
        if (b == ' ' || allowed.indexOf(b) >= 0) {
            Due.holds(what + " can stand there: " + answer, answer >= 0 || answer == -20 - place - 1);
        } else {
            boolean isFigure = b >= '0' && b <= '9';
            Due.due(what + " can't stand there", answer, -20 - (isFigure ? figuresPlace : place));
        }
    }

    private static void townBytesThatCanStand() {
        afterTown("", "clkp", 0);
        afterTown("  ", "clkp", 2);
        afterTown("c", FIGURES, 1);
        afterTown("l ", FIGURES, 2);
        afterTown("c0", FIGURES + "w-,", 1);
        afterTown("c1", FIGURES + "w-,", 1);
        afterTown("c2", "0123w-,", 1);
        afterTown("c3", "w-,", 1);
        afterTown("c8 ", "w-,", 3);
        afterTown("c8w", FIGURES, 3);
        afterTown("c8w ", FIGURES, 4);
        afterTown("c8w9", FIGURES + "-,", 3);
        afterTown("c8w10", "-,", 3);
        afterTown("c8w9 ", "-,", 5);
        afterTown("c8w9-", ",", 5);
        afterTown("c8-", ",", 3);
        afterTown("c8- ", ",", 4);
        afterTown("c8,", "clkp", 3);
        afterTown("c8 , ", "clkp", 5);
        afterTown("c1,c2,c3,c4,c5,c6,c7,c8w9", FIGURES + "-", 24);
        afterTown("c1,c2,c3,c4,c5,c6,c7,c8-", "", 24);
    }

    private static void townFaultAtTheEnd() {
        String[] open = {"", " ", "      ", "c", "c ", "p  ", "c8w", "c8w  ", "c8,", "c8, ", "c8w9-,", "l23 w 99 - ,   "};
        for (String text : open) {
            town(text, -20 - text.length());
        }
        town("c8w" + times(" ", 137), -160);
        town(times(" ", 140), -160);
        town(times(" ", 139) + "c", -160);
        town(times(" ", 139) + "x", -159);
    }

    private static void townFaultOfNumbers() {
        town("c24", -21);
        town("c  24", -23);
        town("c024", -21);
        town("c99", -21);
        town("c24x", -21);
        town("c24 8", -21);
        town("c8w100", -23);
        town("c8w  100", -25);
        town("c8w000100", -23);
        town("c8w9,l24", -26);
        town("c8w9,l2w100x", -28);
        String[] far = {"232", "240", "1000", "2147483648", "4294967296", "4294967304", "18446744073709551624", times("9", 120), "1" + times("0", 130)};
        for (String figures : far) {
            town("c" + figures, -21);
            town("c8w" + figures, -23);
            plan(figures + "+1", -20);
        }
    }

    // Promise 12: plan

    private static void planOfNoneToAll() {
        plan("", 0);
        plan("    ", 0);
        plan(times(" ", 140), 0);
        plan("0+0", 1);
        plan(ALL_HOURS, 24);
        plan(ALL_HOURS + "  ", 24);
        plan(ALL_HOURS.substring(0, ALL_HOURS.length() - 4), 23);
        plan(ALL_HOURS + ",", -129);
        plan(ALL_HOURS + ",0+1", -129);
        plan(ALL_HOURS + " x", -130);
        plan(ALL_HOURS.substring(0, ALL_HOURS.length() - 3), -126);
    }

    private static void planNumbers() {
        for (int hour = 0; hour < 24; hour++) {
            for (int v = -2; v <= 5; v++) {
                JarMinutes x = new JarMinutes();
                String text = hour + (v < 0 ? "" : "+") + v;
                Due.due("12: '" + text + "'", Due.plan(x, text), 1);
                Due.due("12: '" + text + "' is laid", x.lay(hour, 0), v);
                Due.due("12: nothing else is", x.late(24), 0);
            }
        }
        plan("24+1", -20);
        plan("8+6", -22);
        plan("8-3", -22);
        plan("8-0", 1);
    }

    private static void planWhereNoneIsTold() {
        JarMinutes x = new JarMinutes();
        for (int hour = 0; hour < 24; hour++) {
            x.lay(hour, 5);
        }
        Due.due("12: one HOUR", Due.plan(x, "12-2"), 1);
        for (int hour = 0; hour < 24; hour++) {
            Due.due("12: 0, where none is told, " + hour, x.lay(hour, 1), hour == 12 ? -2 : 0);
        }
        Due.due("12: no HOUR", x.plan(), 0);
        for (int hour = 0; hour < 24; hour++) {
            Due.due("12: 0 at all HOURS, " + hour, x.lay(hour, 0), 0);
        }
    }

    private static void planFaultChangesNothing() {
        String[] texts = {"x", "8", "24+1", "8+", "8+6", "8-3", "8+1,", "8+1,8+1", "1+1,2+2,3+3,x", "8+1 9+1"};
        int[] due = {-20, -21, -20, -22, -22, -22, -24, -24, -32, -24};
        for (int i = 0; i < texts.length; i++) {
            String text = texts[i];
            Edges.Told typed = x -> {
                Edges.rich(x);
                x.town();
                Due.typed(x, text);
            };
            Edges.Told emptied = x -> {
                Edges.rich(x);
                x.town();
            };
            Edges.refusedBut("12: the one told stays: '" + text + "'", typed, emptied, x -> x.plan(), due[i]);
        }
    }

    private static void planBytesThatCanStand() {
        afterPlan("", FIGURES, 0);
        afterPlan("  ", FIGURES, 2);
        afterPlan("0", FIGURES + "+-", 0);
        afterPlan("1", FIGURES + "+-", 0);
        afterPlan("2", "0123+-", 0);
        afterPlan("3", "+-", 0);
        afterPlan("8 ", "+-", 2);
        afterPlan("8+", "012345", 2);
        afterPlan("8-", "012", 2);
        afterPlan("8 + ", "012345", 4);
        afterPlan("8 - ", "012", 4);
        afterPlan("8+1", ",", 3);
        afterPlan("8+0", ",", 3);
        afterPlan("8-1 ", ",", 4);
        afterPlan("8+1,", "012345679", 4);
        afterPlan("8+1 , ", "012345679", 6);
        afterPlan(ALL_HOURS, "", 109);
        afterPlan(ALL_HOURS + " ", "", 110);
    }

    private static void planFaultAtTheEnd() {
        String[] open = {"8", "8 ", "23   ", "8+", "8- ", "8+1,", "8+1,  ", "8+1,9", "8+1,9-", "0"};
        for (String text : open) {
            plan(text, -20 - text.length());
        }
        plan("8+" + times(" ", 138), -160);
        plan(times(" ", 139) + "8", -160);
        plan(times(" ", 139) + "+", -159);
        plan(times(" ", 137) + "8+9", -159);
    }

    private static void planFaultOfNumbers() {
        plan("24", -20);
        plan("  24+1", -22);
        plan("00024+1", -20);
        plan("24x", -20);
        plan("99", -20);
        plan("8+1,24+1", -24);
        plan("8+1,  240", -26);
    }

    private static void planHourToldTwice() {
        plan("8+1,8+1", -24);
        plan("0+0,0+0", -24);
        plan("23-0,23-0", -25);
        plan("8+1,  008-1", -26);
        plan("8+1,8", -24);
        plan("8+1,8x", -24);
        plan("8+1,9+1,8+1", -28);
        plan("8+1,80+1", -24);
        plan("1+1,11+1", 2);
        plan("0+1,00+1", -24);
        plan(ALL_HOURS.substring(0, ALL_HOURS.length() - 3) + "23+1", -126);
    }

    // Both: blanks and zeros ahead

    private static void blanksEndANumber() {
        town("c1 2", -23);
        town("c1  2", -24);
        town("c8w1 2", -25);
        plan("1 2+1", -22);
        plan("8+1 2", -24);
        oneTold(" c  8  w  9  -  ", 0, 8, 9, 0);
        oneTold("c 8", 0, 8, 1, 1);
        oneTold("c8w 9", 0, 8, 9, 1);
        plan(" 8 + 1 , 9 - 2 ", 2);
    }

    private static void zerosAhead() {
        oneTold("c" + times("0", 135) + "23", 0, 23, 1, 1);
        oneTold("c" + times("0", 139), 0, 0, 1, 1);
        oneTold("c0w" + times("0", 135) + "99", 0, 0, 99, 1);
        plan(times("0", 130) + "23+1", 1);
        plan("8+01", -23);
        plan("8+00", -23);
        plan("8-01", -23);
    }

    private static void wholeTape() {
        JarMinutes x = new JarMinutes();
        Due.due("12: 140 bytes", Due.plan(x, ALL_HOURS + times(" ", 31)), 24);
        Due.due("12: the last of them", Due.plan(x, times(" ", 137) + "8+5"), 1);
        Due.due("12: its number", x.lay(8, 0), 5);
        Due.due("11: 140 bytes", Due.town(x, times(" ", 134) + "p23w99"), 1);
        Due.due("11: its WEIGHT", x.told(0, 2), 99);
        Due.due("11: 140 bytes, shut", Due.town(x, times(" ", 132) + "p23w99 -"), 1);
        Due.due("11: he may not act", x.told(0, 3), 0);
    }
}
