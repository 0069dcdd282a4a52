import java.util.Random;

/** All promises: runs of calls from fixed seeds, each answer held against the model's. */
public final class RandomRunsTest {
    private static final int RUNS = Integer.getInteger("runs", 600);
    /** An object is used for 512 calls at most; the longest round of calls here takes 40. */
    private static final int CALLS = 512 - 40;
    private static final int[] EDGES = {-1, -2, -3, -13, 24, 25, 100, 2147483647, -2147483648, 2147483646};

    private final Random random;
    private final int run;
    private final JarMinutes x = new JarMinutes();
    private final Model m = new Model();
    /** Some runs are of ordinary numbers nearly all, some of wrong ones too, some of wrong ones half. */
    private final int wrongOnes;
    private int seenSheet;
    private int seenLane;
    private int lastMade;
    private int made;

    private RandomRunsTest(int run) {
        this.run = run;
        random = new Random(run);
        wrongOnes = run % 3 == 0 ? 12 : run % 10 == 1 ? 2 : 200;
    }

    public static void main(String[] args) {
        for (int run = 0; run < RUNS; run++) {
            RandomRunsTest test = new RandomRunsTest(run);
            for (int call = 0; test.made < CALLS; call++) {
                test.call(call);
            }
        }
        Due.end();
    }

    private int upTo(int most) {
        return from(0, most);
    }

    private int from(int least, int most) {
        if (random.nextInt(wrongOnes) == 0) {
            return random.nextBoolean() ? EDGES[random.nextInt(EDGES.length)] : random.nextBoolean() ? most + 1 : least - 1;
        }
        return least + random.nextInt(most - least + 1);
    }

    private void due(int call, String name, long got, long want) {
        made++;
        Due.due("run " + run + ", call " + call + ": " + name, got, want);
    }

    private void call(int i) {
        int kind = random.nextInt(44);
        if (kind < 11) {
            callTown(i, kind);
        } else if (kind < 25) {
            callDays(i, kind);
        } else if (kind < 31) {
            text(i);
        } else {
            callSheets(i, kind);
        }
    }

    private void callTown(int i, int kind) {
        int a = upTo(random.nextInt(3) == 0 ? 3 : 7);
        int h = upTo(23);
        int w = random.nextBoolean() ? upTo(99) : upTo(12);
        switch (kind) {
            case 0, 1 -> {
                int k = upTo(3);
                due(i, "person", x.person(k, h, w), m.person(k, h, w));
            }
            case 2 -> {
                int is = upTo(1);
                due(i, "may", x.may(a, is), m.may(a, is));
            }
            case 3 -> {
                int what = upTo(3);
                due(i, "told", x.told(a, what), m.told(a, what));
            }
            case 4 -> {
                int k = upTo(4);
                due(i, "worth", x.worth(a, h, k), m.worth(a, h, k));
            }
            case 5 -> {
                int waits = random.nextInt(3) == 0 ? w : from(0, 12);
                due(i, "train", x.train(h, waits), m.train(h, waits));
            }
            case 6 -> due(i, "strike", x.strike(), m.strike());
            case 7, 8 -> {
                int what = upTo(3);
                int v = what == 0 ? w : what == 3 ? upTo(20) : random.nextBoolean() ? upTo(60) : upTo(3);
                due(i, "set", x.set(what, v), m.set(what, v));
            }
            case 9 -> due(i, "loss", x.loss(h, w), m.loss(h, w));
            default -> {
                int what = upTo(7);
                due(i, "is", x.is(what), m.is(what));
            }
        }
    }

    private void callDays(int i, int kind) {
        int h = upTo(23);
        switch (kind) {
            case 11, 12 -> {
                int v = random.nextInt(3) == 0 ? 0 : from(-2, 5);
                due(i, "lay", x.lay(h, v), m.lay(h, v));
            }
            case 13 -> {
                int at = upTo(24);
                due(i, "late", x.late(at), m.late(at));
            }
            case 14 -> due(i, "gain", x.gain(), m.gain());
            case 15 -> due(i, "wrong", x.wrong(), m.wrong());
            case 16 -> due(i, "missed", x.missed(), m.missed());
            case 17 -> due(i, "day", x.day(), m.day());
            case 18 -> {
                int end = upTo(1);
                int at = from(-1, 23);
                due(i, "best", x.best(end, at), m.best(end, at));
            }
            case 19 -> {
                int n = random.nextInt(20) == 0 ? from(1, 30) : from(1, 2);
                due(i, "spend", x.spend(n), m.spend(n));
            }
            case 20 -> {
                int a = upTo(7);
                due(i, "share", x.share(a), m.share(a));
            }
            case 21 -> {
                int how = upTo(2);
                int a = upTo(7);
                due(i, "vote", x.vote(how), m.vote(how));
                due(i, "choice", x.choice(a), m.choice(a));
            }
            case 22 -> {
                int n = from(1, 30);
                due(i, "lots", x.lots(n), m.lots(n));
            }
            case 23 -> {
                int v = random.nextInt(wrongOnes) == 0 ? -random.nextInt(9) : random.nextInt() >>> 1;
                due(i, "seed", x.seed(v), m.seed(v));
            }
            default -> {
                if (random.nextInt(3) == 0) {
                    due(i, "image", x.image(), m.image());
                } else {
                    due(i, "restore", x.restore(), m.restore());
                }
            }
        }
    }

    private String blanks() {
        return random.nextInt(12) == 0 ? " " : "";
    }

    private String number(int most) {
        String zeros = random.nextInt(15) == 0 ? "00" : "";
        int v = random.nextInt(60) == 0 ? most + 1 + random.nextInt(300) : random.nextInt(most + 1);
        return zeros + v;
    }

    private String personText() {
        StringBuilder b = new StringBuilder(blanks()).append("clkp".charAt(random.nextInt(4))).append(blanks()).append(number(23)).append(blanks());
        if (random.nextBoolean()) {
            b.append('w').append(blanks()).append(number(random.nextBoolean() ? 99 : 9)).append(blanks());
        }
        return b.append(random.nextInt(4) == 0 ? "-" : "").append(blanks()).toString();
    }

    private String hourText(int hour) {
        boolean laid = random.nextInt(3) != 0;
        return blanks() + (random.nextInt(20) == 0 ? number(23) : "" + hour) + blanks() + (laid ? "+" : "-") + blanks()
            + random.nextInt(laid ? 6 : 3) + blanks();
    }

    private void text(int i) {
        boolean isTown = random.nextBoolean();
        StringBuilder b = new StringBuilder();
        int n = isTown ? 1 + random.nextInt(9) : random.nextInt(random.nextInt(4) == 0 ? 26 : 8);
        for (int k = 0; k < n; k++) {
            b.append(k == 0 ? "" : ",").append(isTown ? personText() : hourText((i + 7 * k) % 24));
        }
        if (random.nextInt(4) == 0 && b.length() > 0) {
            int at = random.nextInt(b.length());
            switch (random.nextInt(3)) {
                case 0 -> b.setLength(at);
                case 1 -> b.insert(at, "clkpw0123456789+-, x".charAt(random.nextInt(20)));
                default -> b.setCharAt(at, "clkpw0123456789+-, x".charAt(random.nextInt(20)));
            }
        }
        for (int at = 0; at < b.length(); at += 8) {
            String part = b.substring(at, Math.min(at + 8, b.length()));
            long w = Due.packed(part);
            int length = random.nextInt(wrongOnes * 4) == 0 ? from(0, 9) : part.length();
            due(i, "type " + part, x.type(w, length), m.type(w, length));
        }
        if (random.nextInt(30) == 0) {
            isTown = !isTown;
        }
        if (isTown) {
            due(i, "town " + b, x.town(), m.town());
        } else {
            due(i, "plan " + b, x.plan(), m.plan());
        }
    }

    /** Mostly of a SHEET that was made of late, in its LANE. */
    private void chooseSheet() {
        seenSheet = random.nextInt(3) == 0 ? upTo(3) : lastMade >> 2;
        seenLane = random.nextInt(3) == 0 ? upTo(2) : lastMade & 3;
    }

    private void callSheets(int i, int kind) {
        chooseSheet();
        int sheet = seenSheet;
        int lane = seenLane;
        switch (kind) {
            case 31, 32 -> {
                int n = random.nextInt(4) == 0 ? upTo(24) : 24;
                due(i, "sheet", x.sheet(sheet, lane, n), m.sheet(sheet, lane, n));
                lastMade = sheet >= 0 && sheet < 4 && lane >= 0 && lane < 3 ? sheet << 2 | lane : lastMade;
            }
            case 33 -> {
                if (random.nextInt(4) == 0) {
                    due(i, "drop", x.drop(sheet), m.drop(sheet));
                }
            }
            case 34, 35 -> {
                int at = upTo(23);
                long v = random.nextInt(4) == 0 ? random.nextLong() : from(-2, 5);
                due(i, "item", x.item(sheet, lane, at, v), m.item(sheet, lane, at, v));
            }
            case 36 -> {
                int to = random.nextBoolean() ? sheet : upTo(3);
                int from = upTo(12);
                int at = upTo(12);
                int n = random.nextInt(5) == 0 ? upTo(24) : upTo(12);
                due(i, "copy", x.copy(sheet, from, to, at, n), m.copy(sheet, from, to, at, n));
            }
            case 37, 38, 39 -> clocks(i, sheet, lane);
            case 40, 41 -> {
                int from = random.nextInt(9) == 0 ? upTo(2) : 0;
                due(i, "film", x.film(sheet, lane, from), m.film(sheet, lane, from));
            }
            default -> {
                int from = random.nextInt(9) == 0 ? upTo(2) : 0;
                due(i, "build", x.build(sheet, lane, from), m.build(sheet, lane, from));
            }
        }
    }

    private void clocks(int i, int sheet, int lane) {
        int n = from(1, 8);
        int from = random.nextInt(4) == 0 ? upTo(23) : 0;
        boolean tight = random.nextBoolean();
        for (int k = 0; k < 8; k++) {
            int hour = upTo(24);
            int late = tight ? 2 * hour - random.nextInt(2) : hour - random.nextInt(3) + 1;
            due(i, "item", x.item(sheet, lane, 2 * k, hour), m.item(sheet, lane, 2 * k, hour));
            due(i, "item", x.item(sheet, lane, 2 * k + 1, late), m.item(sheet, lane, 2 * k + 1, late));
        }
        due(i, "clocks", x.clocks(sheet, lane, from, n), m.clocks(sheet, lane, from, n));
        for (int k = 0; k < 4; k++) {
            int hour = upTo(23);
            due(i, "sure", x.sure(hour, sheet, lane, from, n), m.sure(hour, sheet, lane, from, n));
        }
    }
}
