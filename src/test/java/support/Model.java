import java.util.ArrayList;
import java.util.HashMap;
import java.util.List;
import java.util.Map;

/**
 * The document once more, in lists and maps and by other ways than the class goes (PLANS are found from the first HOUR
 * on, texts are read sign by sign, ROWS are counted number by number), for runs of calls to be held against it.
 */
final class Model {
    private static final int LESS = 100000000;

    record One(int kind, int hour, int weight, boolean may) {
        int worth(int at, int k) {
            int way = Math.min(Math.floorMod(at - hour, 24), Math.floorMod(hour - at, 24));
            int cook = Math.max(0, weight - 3 * way);
            return switch (kind) {
                case 0 -> way == 0 ? weight : 0;
                case 1 -> way < 2 ? weight : 0;
                case 2 -> cook;
                default -> k == 0 ? cook : worth(at, k - 1) / 2;
            };
        }
    }

    record Train(int hour, int waits) {
    }

    /** A row of HOURS' numbers as a text, so that texts stand as the rows do; and its GAIN. */
    record Found(int gain, String row) {
        boolean isAhead(Found other) {
            return other == null || gain > other.gain || gain == other.gain && row.compareTo(other.row) < 0;
        }
    }

    static final class State {
        final List<One> people = new ArrayList<>();
        final List<Train> trains = new ArrayList<>();
        final int[] loss = new int[24];
        final int[] plan = new int[24];
        final int[] settings = {11, 0, 0, 1};
        int days;
        int happiness;
        long draw = 1;

        State() {
            for (int h = 0; h < 24; h++) {
                loss[h] = 5;
            }
        }

        State twin() {
            State s = new State();
            s.people.addAll(people);
            s.trains.addAll(trains);
            System.arraycopy(loss, 0, s.loss, 0, 24);
            System.arraycopy(plan, 0, s.plan, 0, 24);
            System.arraycopy(settings, 0, s.settings, 0, 4);
            s.days = days;
            s.happiness = happiness;
            s.draw = draw;
            return s;
        }
    }

    private State s = new State();
    private State image;
    private final StringBuilder tape = new StringBuilder();
    private final long[][] rows = new long[4][];
    private final int[] lanes = new int[4];

    private static boolean in(long v, long from, long to) {
        return from <= v && v <= to;
    }

    private boolean isOne(int p) {
        return in(p, 0, s.people.size() - 1);
    }

    int person(int kind, int hour, int weight) {
        if (!in(kind, 0, 3) || !in(hour, 0, 23) || !in(weight, 0, 99)) return -1;
        if (s.people.size() == 8) return -3;
        s.people.add(new One(kind, hour, weight, true));
        return s.people.size() - 1;
    }

    int may(int p, int is) {
        if (!isOne(p) || !in(is, 0, 1)) return -1;
        One o = s.people.get(p);
        s.people.set(p, new One(o.kind, o.hour, o.weight, is == 1));
        return o.may ? 1 : 0;
    }

    int told(int p, int what) {
        if (!isOne(p) || !in(what, 0, 3)) return -1;
        One o = s.people.get(p);
        return new int[] {o.kind, o.hour, o.weight, o.may ? 1 : 0}[what];
    }

    int worth(int p, int hour, int k) {
        return isOne(p) && in(hour, 0, 23) && in(k, 0, 4) ? s.people.get(p).worth(hour, k) : -1;
    }

    int train(int hour, int waits) {
        if (!in(hour, 0, 23) || !in(waits, 0, 99)) return -1;
        if (s.trains.size() == 6) return -3;
        s.trains.add(new Train(hour, waits));
        return s.trains.size() - 1;
    }

    int strike() {
        if (s.trains.isEmpty()) return -4;
        s.trains.remove(s.trains.size() - 1);
        return s.trains.size();
    }

    int set(int what, int v) {
        if (!in(what, 0, 3) || !in(v, 0, new int[] {99, 60, 60, 20}[what])) return -1;
        int was = s.settings[what];
        s.settings[what] = v;
        return was;
    }

    int loss(int hour, int v) {
        if (!in(hour, 0, 23) || !in(v, 0, 99)) return -1;
        int was = s.loss[hour];
        s.loss[hour] = v;
        return was;
    }

    int type(long w, int n) {
        if (!in(n, 1, 8)) return -1;
        StringBuilder b = new StringBuilder();
        for (int i = n - 1; i >= 0; i--) {
            int c = (int) (w >> 8 * i & 0xFF);
            if (!in(c, 32, 126)) return -1;
            b.append((char) c);
        }
        if (tape.length() + n > 140) return -3;
        return tape.append(b).length();
    }

    private String takeTape() {
        String t = tape.toString();
        tape.setLength(0);
        return t;
    }

    /** Reads sign by sign; what stands behind the last sign is the state: what may come. */
    int town() {
        String t = takeTape() + '\n';
        List<One> read = new ArrayList<>();
        String may = "kind";
        int kind = 0, hour = 0, weight = 1, start = 0;
        boolean acts = true;
        for (int i = 0; i < t.length(); i++) {
            char c = t.charAt(i);
            if (may.endsWith("more") && !Character.isDigit(c)) {
                int most = may.equals("hour more") ? 23 : 99;
                int v = Integer.parseInt(new java.math.BigInteger(t.substring(start, i)).min(java.math.BigInteger.TEN.pow(6)).toString());
                if (v > most) return -20 - start;
                if (most == 23) hour = v;
                else weight = v;
                may = most == 23 ? "w" : "-";
            }
            if (c == ' ') continue;
            if (may.endsWith("more")) continue;
            if (may.equals("kind") && "clkp".indexOf(c) >= 0) {
                kind = "clkp".indexOf(c);
                weight = 1;
                acts = true;
                may = "hour";
            } else if ((may.equals("hour") || may.equals("weight")) && Character.isDigit(c)) {
                start = i;
                may += " more";
            } else if (may.equals("w") && c == 'w') {
                may = "weight";
            } else if ((may.equals("w") || may.equals("-")) && c == '-') {
                acts = false;
                may = ",";
            } else if ((may.equals("w") || may.equals("-") || may.equals(",")) && (c == '\n' || c == ',' && read.size() < 7)) {
                read.add(new One(kind, hour, weight, acts));
                may = "kind";
                if (c == '\n') {
                    s.people.clear();
                    s.people.addAll(read);
                    return read.size();
                }
            } else {
                return -20 - i;
            }
        }
        throw new IllegalStateException();
    }

    int plan() {
        String t = takeTape() + '\n';
        Map<Integer, Integer> read = new HashMap<>();
        String may = t.isBlank() ? "nothing" : "hour";
        int hour = 0, start = 0, sign = 1;
        for (int i = 0; i < t.length(); i++) {
            char c = t.charAt(i);
            if (may.equals("hour more") && !Character.isDigit(c)) {
                java.math.BigInteger v = new java.math.BigInteger(t.substring(start, i));
                if (v.compareTo(java.math.BigInteger.valueOf(23)) > 0) return -20 - start;
                hour = v.intValue();
                if (read.containsKey(hour)) return -20 - start;
                may = "sign";
            }
            if (c == ' ' || may.equals("hour more")) continue;
            if (may.equals("hour") && Character.isDigit(c)) {
                start = i;
                may = "hour more";
            } else if (may.equals("sign") && (c == '+' || c == '-')) {
                sign = c == '+' ? 1 : -1;
                may = "digit";
            } else if (may.equals("digit") && in(c, '0', sign > 0 ? '5' : '2')) {
                read.put(hour, sign * (c - '0'));
                may = ",";
            } else if (may.equals(",") && c == ',' && read.size() < 24) {
                may = "hour";
            } else if ((may.equals(",") || may.equals("nothing")) && c == '\n') {
                for (int h = 0; h < 24; h++) s.plan[h] = read.getOrDefault(h, 0);
                return read.size();
            } else {
                return -20 - i;
            }
        }
        throw new IllegalStateException();
    }

    int lay(int hour, int v) {
        if (!in(hour, 0, 23) || !in(v, -2, 5)) return -1 - LESS;
        int was = s.plan[hour];
        s.plan[hour] = v;
        return was;
    }

    int is(int what) {
        if (in(what, 0, 3)) return s.settings[what];
        if (!in(what, 4, 7)) return -1 - LESS;
        return new int[] {s.people.size(), s.trains.size(), s.days, s.happiness}[what - 4];
    }

    private static int late(int[] row, int hour) {
        int sum = 0;
        for (int h = 0; h < hour; h++) sum += row[h];
        return sum;
    }

    int late(int hour) {
        return in(hour, 0, 24) ? late(s.plan, hour) : -1 - LESS;
    }

    private int gainOf(int hour, int number, int without) {
        int sum = 0;
        for (int m = 0; m < -number; m++) sum -= s.loss[hour];
        for (int p = 0; p < s.people.size(); p++) {
            for (int k = 0; k < number; k++) {
                if (p != without && s.people.get(p).may) sum += s.people.get(p).worth(hour, k);
            }
        }
        return sum;
    }

    private int gain(int[] row) {
        int sum = 0;
        for (int h = 0; h < 24; h++) sum += gainOf(h, row[h], -1);
        return sum;
    }

    int gain() {
        return gain(s.plan);
    }

    private boolean caught(int hour, int late) {
        return s.trains.stream().allMatch(t -> t.hour != hour || late <= t.waits);
    }

    private int wrong(int[] row) {
        for (int h = 0; h < 24; h++) {
            if (!caught(h, late(row, h)) || !in(late(row, h + 1), 0, s.settings[0])) return h;
        }
        return -4;
    }

    int wrong() {
        return wrong(s.plan);
    }

    int missed() {
        int set = 0;
        for (int t = 0; t < s.trains.size(); t++) {
            if (late(s.plan, s.trains.get(t).hour) > s.trains.get(t).waits) set += 1 << t;
        }
        return set;
    }

    private int live(int[] row) {
        int gain = gain(row);
        s.settings[0] -= late(row, 24);
        s.happiness += gain;
        s.days++;
        if (s.settings[1] != 0 && s.days % s.settings[1] == 0 && s.settings[0] > 0) s.settings[0]--;
        if (s.settings[2] != 0 && s.days % s.settings[2] == 0) s.settings[0] = Math.min(99, s.settings[0] + s.settings[3]);
        return gain;
    }

    int day() {
        if (wrong() != -4) return -2 - LESS;
        if (s.days == 9999) return -3 - LESS;
        return live(s.plan);
    }

    /** From the first HOUR on: of all ways to be LATE the best row so far. */
    private Found best(int without, boolean end) {
        Map<Integer, Found> found = new HashMap<>();
        found.put(0, new Found(0, ""));
        for (int h = 0; h < 24; h++) {
            Map<Integer, Found> next = new HashMap<>();
            int[] gains = new int[8];
            for (int v = -2; v <= 5; v++) gains[v + 2] = gainOf(h, v, without);
            for (Map.Entry<Integer, Found> e : found.entrySet()) {
                if (!caught(h, e.getKey())) continue;
                for (int v = -2; v <= 5; v++) {
                    int behind = e.getKey() + v;
                    if (!in(behind, 0, s.settings[0])) continue;
                    Found f = new Found(e.getValue().gain + gains[v + 2], e.getValue().row + (char) ('2' + v));
                    if (f.isAhead(next.get(behind))) next.put(behind, f);
                }
            }
            found = next;
        }
        Found all = null;
        for (Map.Entry<Integer, Found> e : found.entrySet()) {
            if ((!end || e.getKey() == 0) && e.getValue().isAhead(all)) all = e.getValue();
        }
        return all;
    }

    int best(int end, int i) {
        if (!in(end, 0, 1) || !in(i, -1, 23)) return -1 - LESS;
        Found f = best(-1, end == 1);
        return i < 0 ? f.gain : f.row.charAt(i) - '2';
    }

    private int refusedDays(int n) {
        if (!in(n, 1, 30)) return -1 - LESS;
        return s.days + n > 9999 ? -3 - LESS : 0;
    }

    int spend(int n) {
        if (refusedDays(n) != 0) return refusedDays(n);
        int sum = 0;
        for (int d = 0; d < n; d++) {
            String row = best(-1, false).row;
            sum += live(row.chars().map(c -> c - '2').toArray());
        }
        return sum;
    }

    int share(int p) {
        return isOne(p) ? best(-1, false).gain - best(p, false).gain : -1;
    }

    int choice(int p) {
        if (!isOne(p)) return -1;
        One o = s.people.get(p);
        int hour = -4;
        for (int h = 23; h >= 0; h--) {
            if (o.may && o.worth(h, 0) > 0 && (hour < 0 || o.worth(h, 0) >= o.worth(hour, 0))) hour = h;
        }
        return hour;
    }

    int vote(int how) {
        if (!in(how, 0, 2)) return -1;
        int[] sums = new int[24];
        for (int p = 0; p < s.people.size(); p++) {
            One o = s.people.get(p);
            for (int h = 0; h < 24; h++) {
                boolean isFor = choice(p) == h;
                sums[h] += how == 0 ? (isFor ? 1 : 0) : how == 1 ? (isFor ? o.weight : 0) : o.may ? o.worth(h, 0) : 0;
            }
        }
        int hour = -4;
        for (int h = 23; h >= 0; h--) {
            if (sums[h] > 0 && (hour < 0 || sums[h] >= sums[hour])) hour = h;
        }
        return hour;
    }

    int lots(int n) {
        if (refusedDays(n) != 0) return refusedDays(n);
        int sum = 0;
        for (int d = 0; d < n; d++) {
            int[] row = new int[24];
            for (int h = 0; h < 24; h++) {
                s.draw = Math.floorMod(s.draw * 1103515245L + 12345, 1L << 31);
                row[h] = (int) (s.draw / 65536 % 8) - 2;
                int behind = late(row, h + 1);
                if (!in(behind, 0, s.settings[0]) || h < 23 && !caught(h + 1, behind)) row[h] = 0;
            }
            sum += live(wrong(row) == -4 ? row : new int[24]);
        }
        return sum;
    }

    int seed(int v) {
        if (v < 0) return -1;
        int was = (int) s.draw;
        s.draw = v;
        return was;
    }

    int image() {
        image = s.twin();
        return 1;
    }

    int restore() {
        if (image == null) return -4;
        s = image.twin();
        return 1;
    }

    private int refusedRow(int sheet, int lane, long from, long n) {
        if (!in(sheet, 0, 3) || !in(lane, 0, 2)) return -1;
        if (rows[sheet] == null) return -11;
        if (lanes[sheet] != lane) return -12;
        return from < 0 || from + n > rows[sheet].length ? -13 : 0;
    }

    private int refusedClocks(int sheet, int lane, int from, int n) {
        if (!in(n, 1, 8)) return -1;
        int refused = refusedRow(sheet, lane, from, 2L * n);
        for (int i = 0; i < n && refused == 0; i++) {
            if (!in(rows[sheet][from + 2 * i], 0, 24)) refused = -2;
        }
        return refused;
    }

    private long count(int hour, int late, long[] pairs, int fixed, int number, Map<Integer, Long> known) {
        for (int i = 0; i < pairs.length; i += 2) {
            if (pairs[i] == hour && pairs[i + 1] != late) return 0;
        }
        if (hour == 24) return 1;
        Long k = known.get(hour * 100 + late);
        if (k != null) return k;
        long sum = 0;
        for (int v = 0; v <= 2; v++) {
            if (hour != fixed || v == number) sum += count(hour + 1, late + v, pairs, fixed, number, known);
        }
        known.put(hour * 100 + late, sum);
        return sum;
    }

    private long[] pairs(int sheet, int from, int n) {
        return java.util.Arrays.copyOfRange(rows[sheet], from, from + 2 * n);
    }

    long clocks(int sheet, int lane, int from, int n) {
        int refused = refusedClocks(sheet, lane, from, n);
        return refused != 0 ? refused : count(0, 0, pairs(sheet, from, n), -1, 0, new HashMap<>());
    }

    int sure(int hour, int sheet, int lane, int from, int n) {
        if (!in(hour, 0, 23)) return -1;
        int refused = refusedClocks(sheet, lane, from, n);
        if (refused != 0) return refused;
        List<Integer> can = new ArrayList<>();
        for (int v = 0; v <= 2; v++) {
            if (count(0, 0, pairs(sheet, from, n), hour, v, new HashMap<>()) > 0) can.add(v);
        }
        return can.size() == 1 ? can.get(0) : -4;
    }

    int film(int sheet, int lane, int from) {
        int refused = refusedRow(sheet, lane, from, 24);
        if (refused != 0) return refused;
        for (int h = 0; h < 24; h++) rows[sheet][from + h] = s.plan[h];
        return 24;
    }

    int build(int sheet, int lane, int from) {
        int refused = refusedRow(sheet, lane, from, 24);
        for (int h = 0; h < 24 && refused == 0; h++) {
            if (!in(rows[sheet][from + h], -2, 5)) refused = -2;
        }
        if (refused != 0) return refused - LESS;
        for (int h = 0; h < 24; h++) s.plan[h] = (int) rows[sheet][from + h];
        return gain();
    }

    int sheet(int sheet, int lane, int n) {
        if (!in(sheet, 0, 3) || !in(lane, 0, 2) || n > 24) return -1;
        if (n < 0) return -14;
        rows[sheet] = new long[n];
        lanes[sheet] = lane;
        return n;
    }

    int drop(int sheet) {
        if (!in(sheet, 0, 3)) return -1;
        if (rows[sheet] == null) return -11;
        int had = rows[sheet].length;
        rows[sheet] = null;
        return had;
    }

    int item(int sheet, int lane, int i, long v) {
        int refused = refusedRow(sheet, lane, i, 1);
        if (refused != 0) return refused;
        rows[sheet][i] = lane == 0 ? v << 56 >> 56 : lane == 1 ? v << 32 >> 32 : v;
        return 1;
    }

    int copy(int from, int i, int to, int j, int n) {
        if (!in(from, 0, 3) || !in(to, 0, 3)) return -1;
        if (rows[from] == null || rows[to] == null) return -11;
        if (lanes[from] != lanes[to]) return -12;
        if (n < 0 || refusedRow(from, lanes[from], i, n) != 0 || refusedRow(to, lanes[to], j, n) != 0) return -13;
        long[] taken = rows[from].clone();
        for (int k = 0; k < n; k++) rows[to][j + k] = taken[i + k];
        return n;
    }
}
