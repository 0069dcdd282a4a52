/** Counts answers that are not as due, and ends a test with exit code 1 if there was one. */
final class Due {
    private static int wrong = 0;

    private Due() {
    }

    /** One call of a promise: what it answered, and what is due. */
    static void due(String call, long got, long want) {
        if (got != want) {
            wrong++;
            System.out.println(call + " answered " + got + ", due is " + want);
        }
    }

    static void holds(String what, boolean so) {
        due(what, so ? 1 : 0, 1);
    }

    /** Types a text on THE TAPE, eight bytes a call at most. */
    static void typed(JarMinutes x, String text) {
        for (int from = 0; from < text.length(); from += 8) {
            String part = text.substring(from, Math.min(from + 8, text.length()));
            due("type " + part, x.type(packed(part), part.length()), Math.min(from + 8, text.length()));
        }
    }

    static long packed(String part) {
        long w = 0;
        for (int i = 0; i < part.length(); i++) {
            w = w << 8 | part.charAt(i);
        }
        return w;
    }

    static int town(JarMinutes x, String text) {
        typed(x, text);
        return x.town();
    }

    static int plan(JarMinutes x, String text) {
        typed(x, text);
        return x.plan();
    }

    /** A SHEET of ints with these items. */
    static void written(JarMinutes x, int sheet, int lane, long... items) {
        due("sheet", x.sheet(sheet, lane, items.length), items.length);
        for (int i = 0; i < items.length; i++) {
            due("item " + i, x.item(sheet, lane, i, items[i]), 1);
        }
    }

    static void end() {
        if (wrong != 0) {
            System.out.println(wrong + " answers are not as due");
            System.exit(1);
        }
    }
}
