/** Promises 10 to 12: THE TAPE, TOWNS and PLANS as texts, and their FAULTS. */
public final class TextsTest {
    public static void main(String[] args) {
        tape();
        tapeFull();
        towns();
        townFaults();
        plans();
        planFaults();
        Due.end();
    }

    private static void tape() {
        JarMinutes x = new JarMinutes();
        long w = Due.packed("c8w10,l2");
        Due.due("10: n 0", x.type(w, 0), JarMinutes.BAD);
        Due.due("10: n -1", x.type(w, -1), JarMinutes.BAD);
        Due.due("10: n 9", x.type(w, 9), JarMinutes.BAD);
        Due.due("10: a byte 31", x.type(31, 1), JarMinutes.BAD);
        Due.due("10: a byte 127", x.type(127, 1), JarMinutes.BAD);
        Due.due("10: a byte 128", x.type(128, 1), JarMinutes.BAD);
        Due.due("10: a byte 0 ahead", x.type(97, 2), JarMinutes.BAD);
        Due.due("10: a byte 255", x.type(-1L, 8), JarMinutes.BAD);
        Due.due("10: nothing came", x.plan(), 0);
        Due.due("10: bytes 32 and 126", x.type(32 << 8 | 126, 2), 2);
        Due.due("10: that is a fault", x.plan(), -21);
        Due.due("10: only the lowest count", x.type(0x0102030405060000L | 'c' << 8 | '9', 2), 2);
        Due.due("10: the highest first", x.town(), 1);
        Due.due("10: the hour", x.told(0, 1), 9);
        x.type('8', 1);
        x.type('+', 1);
        x.type('3', 1);
        Due.due("10: behind the tape", x.plan(), 1);
        Due.due("10: number", x.lay(8, 0), 3);
    }

    private static void tapeFull() {
        JarMinutes x = new JarMinutes();
        long blanks = Due.packed("        ");
        for (int i = 1; i <= 17; i++) {
            Due.due("10: type", x.type(blanks, 8), 8 * i);
        }
        Due.due("10: 144 are too many", x.type(blanks, 8), JarMinutes.FULL);
        Due.due("10: 141 are too many", x.type(blanks, 5), JarMinutes.FULL);
        Due.due("10: BAD ahead of FULL", x.type(1L, 8), JarMinutes.BAD);
        Due.due("10: BAD ahead of FULL", x.type(blanks, 9), JarMinutes.BAD);
        Due.due("10: 140", x.type(blanks, 4), 140);
        Due.due("10: 141", x.type(' ', 1), JarMinutes.FULL);
        Due.due("10: the end of 140 blanks", x.town(), -160);
        Due.due("10: the tape is empty then", x.town(), -20);
        for (int i = 1; i <= 17; i++) {
            Due.due("10: type", x.type(blanks, 8), 8 * i);
        }
        Due.due("10: the whole tape is read", x.type(Due.packed("+"), 1), 137);
        Due.due("10: place of it", x.plan(), -156);
    }

    private static void people(JarMinutes x, String what, int[]... due) {
        Due.due(what, x.is(4), due.length);
        for (int i = 0; i < due.length; i++) {
            for (int k = 0; k < 4; k++) {
                Due.due(what + " told " + i + " " + k, x.told(i, k), due[i][k]);
            }
        }
    }

    private static void towns() {
        JarMinutes x = new JarMinutes();
        Due.due("11: one", Due.town(x, "c0"), 1);
        people(x, "11: one", new int[] {0, 0, 1, 1});
        Due.due("11: three", Due.town(x, "l23w5,l0w5-,p1w20"), 3);
        people(x, "11: three", new int[] {1, 23, 5, 1}, new int[] {1, 0, 5, 0}, new int[] {3, 1, 20, 1});
        Due.due("11: blanks", Due.town(x, "  k  7  w  9  -  ,  c  12  -  "), 2);
        people(x, "11: blanks", new int[] {2, 7, 9, 0}, new int[] {0, 12, 1, 0});
        Due.due("11: zeros ahead", Due.town(x, "c0000023w00000000000000000000099,l00w000"), 2);
        people(x, "11: zeros ahead", new int[] {0, 23, 99, 1}, new int[] {1, 0, 0, 1});
        Due.due("11: eight", Due.town(x, "c1,c2,c3,c4,c5,c6,c7,c8"), 8);
        Due.due("11: eight", x.person(0, 0, 0), JarMinutes.FULL);
        Due.due("11: fewer again", Due.town(x, "p6"), 1);
        people(x, "11: in place of all", new int[] {3, 6, 1, 1});
        x.may(0, 0);
        Due.due("11: in place of one who may not", Due.town(x, "p6"), 1);
        Due.due("11: he may", x.told(0, 3), 1);
        x.train(5, 5);
        Due.due("11: trains stay", Due.town(x, "p6"), 1);
        Due.due("11: trains stay", x.is(5), 1);
    }

    private static void townFaults() {
        JarMinutes x = new JarMinutes();
        x.person(2, 14, 33);
        String[] texts = {"", " ", "   ", "x", " x", "C8", "8", ",", "c", "c ", "cx", "c-", "c,", "c24", "c 24",
            "c024x", "c99999999999999999999", "c8x", "c8 8", "c8w", "c8w ", "c8wx", "c8w-", "c8w100", "c8w 0100", "c8w9 9",
            "c8w9w9", "c8w4294967297", "c8-w9", "c8--", "c8-x", "c8,", "c8, ", "c8,,", "c8,x", "c8;", "c8 c9", "c1,c24,x",
            "c1,c2,c3,c4,c5,c6,c7,c8,", "c1,c2,c3,c4,c5,c6,c7,c8 ,c9", "c1,c2,c3,c4,c5,c6,c7,c8c", "w8", "c+8", "c8+"};
        int[] places = {0, 1, 3, 0, 1, 0, 0, 0, 1, 2, 1, 1, 1, 1, 2,
            1, 1, 2, 3, 3, 4, 3, 3, 3, 4, 5,
            4, 3, 3, 3, 3, 3, 4, 3, 3, 2, 3, 4,
            23, 24, 23, 0, 1, 2};
        for (int i = 0; i < texts.length; i++) {
            Due.due("11: fault of '" + texts[i] + "'", Due.town(x, texts[i]), -20 - places[i]);
            Due.due("11: the tape is empty then", x.plan(), 0);
            people(x, "11: those told stay", new int[] {2, 14, 33, 1});
        }
    }

    private static void plans() {
        JarMinutes x = new JarMinutes();
        x.lay(5, 5);
        Due.due("12: an empty one", x.plan(), 0);
        Due.due("12: 0 where none is told", x.lay(5, 4), 0);
        Due.due("12: blanks alone", Due.plan(x, "    "), 0);
        Due.due("12: 0 where none is told", x.lay(5, 4), 0);
        Due.due("12: two", Due.plan(x, "8+3,20-2"), 2);
        Due.due("12: 5 is none told", x.lay(5, 0), 0);
        Due.due("12: 8", x.lay(8, 0), 3);
        Due.due("12: 20", x.lay(20, 0), -2);
        Due.due("12: blanks, zeros ahead", Due.plan(x, " 008  +  5 ,  0023  -  1 , 0 + 0 , 1-0 "), 4);
        Due.due("12: 8", x.lay(8, 0), 5);
        Due.due("12: 23", x.lay(23, 0), -1);
        Due.due("12: 0", x.lay(0, 0), 0);
        Due.due("12: 1", x.lay(1, 0), 0);
        Due.due("12: all hours", Due.plan(x, "23+0,22+1,21+2,20+3,19+4,18+5,17-0,16-1,15-2,14+0,13+1,12+2,11+3,10+4,"
            + "9+5,8-0,7-1,6-2,5+0,4+1,3+2,2+3,1+4,0+5"), 24);
        int[] due = {5, 4, 3, 2, 1, 0, -2, -1, 0, 5, 4, 3, 2, 1, 0, -2, -1, 0, 5, 4, 3, 2, 1, 0};
        for (int hour = 0; hour < 24; hour++) {
            Due.due("12: hour " + hour, x.lay(hour, 0), due[hour]);
        }
    }

    private static void planFaults() {
        JarMinutes x = new JarMinutes();
        x.lay(3, 2);
        String[] texts = {"x", " x", ",", "+1", "8", "8 ", "8 8", "8x", "8,", "8+", "8+ ", "8+x", "8++1", "8+-1", "8+6", "8-3", "8 - 3",
            "24", "24+1", " 024", "999999999999+1", "8+1,", "8+1, ", "8+1,,", "8+1;", "8+1 9+1", "8+15", "8+05", "8+1,8-1", "8+1, 08",
            "8+1,9+1,8x", "8+1,24x", "8w1", "4294967296+1", "8-12",
            "23+0,22+1,21+2,20+3,19+4,18+5,17-0,16-1,15-2,14+0,13+1,12+2,11+3,10+4,9+5,8-0,7-1,6-2,5+0,4+1,3+2,2+3,1+4,0+5,"};
        int[] places = {0, 1, 0, 0, 1, 2, 2, 1, 1, 2, 3, 2, 2, 2, 2, 2, 4,
            0, 0, 1, 0, 4, 5, 4, 3, 4, 3, 3, 4, 5,
            8, 4, 1, 0, 3,
            109};
        for (int i = 0; i < texts.length; i++) {
            Due.due("12: fault of '" + texts[i] + "'", Due.plan(x, texts[i]), -20 - places[i]);
            Due.due("12: the tape is empty then", x.town(), -20);
            Due.due("12: the one told stays", x.late(24), 2);
            Due.due("12: the one told stays", x.late(3), 0);
        }
    }
}
