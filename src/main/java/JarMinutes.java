import java.util.Arrays;

/**
 * A town that keeps odd minutes in a jar, lays them in at some hours of a day and takes some out of others.
 * Words in capitals are those of the document; every refusal is an answer below 0, and no call throws.
 */
public final class JarMinutes {
    public static final int BAD = -1, NOT = -2, FULL = -3, NONE = -4, NULL = -11, CAST = -12, INDEX = -13, SIZE = -14;

    private static final int HOURS = 24;
    private static final int MOST_PEOPLE = 8;
    private static final int MOST_TRAINS = 6;
    private static final int MOST_WEIGHT = 99;
    private static final int MOST_WAIT = 99;
    private static final int MOST_LOSS = 99;
    private static final int MOST_JAR = 99;
    private static final int MOST_RHYTHM = 60;
    private static final int MOST_DUE = 20;
    private static final int MOST_DAYS = 9999;
    private static final int MOST_DAYS_AT_ONCE = 30;
    private static final int LEAST_NUMBER = -2;
    private static final int MOST_NUMBER = 5;
    private static final int NUMBERS = MOST_NUMBER - LEAST_NUMBER + 1;
    private static final int CLERK = 0, LOVER = 1, COOK = 2, PLAYER = 3;
    private static final int HEADS = 0, WEIGHTS = 1, NEED = 2;
    private static final int NOBODY = -1;
    private static final int TAPE_LENGTH = 140;
    private static final int END = -1;
    private static final int NO_SETTING = -1;
    private static final int FIRST_FAULT = -20;
    private static final int SHEETS = 4;
    private static final int MOST_ITEMS = 24;
    private static final int NOTHING = -1, BYTES = 0, INTS = 1, LONGS = 2;
    private static final int MOST_CLOCKS = 8;
    private static final int MOST_CLOCK_NUMBER = 2;
    private static final int MOST_CLOCK_LATE = HOURS * MOST_CLOCK_NUMBER;

    /** Refusals of calls whose told answers may be below 0 are so much less. */
    private static final int LESS = 100000000;

    private final Town now = new Town();
    private final Town kept = new Town();
    private boolean hasImage = false;
    private final Tape tape = new Tape();
    private final Planner planner = new Planner();
    private final ClockRows clockRows = new ClockRows();
    private final Sheet[] sheets = new Sheet[SHEETS];
    private final int[] drawnRow = new int[HOURS];

    public JarMinutes() {
        for (int i = 0; i < SHEETS; i++) {
            sheets[i] = new Sheet();
        }
    }

    // ---- 1 people, trains, plans

    public int person(int kind, int hour, int weight) {
        if (kind < CLERK || kind > PLAYER || !isHour(hour) || !isWithin(weight, MOST_WEIGHT)) {
            return BAD;
        }
        if (now.peopleCount >= MOST_PEOPLE) {
            return FULL;
        }
        now.people[now.peopleCount].become(kind, hour, weight, 1);
        now.peopleCount++;
        return now.peopleCount - 1;
    }

    public int may(int person, int is) {
        if (!now.hasPerson(person) || !isWithin(is, 1)) {
            return BAD;
        }
        int before = now.people[person].mayAct;
        now.people[person].mayAct = is;
        return before;
    }

    public int told(int person, int what) {
        if (!now.hasPerson(person)) {
            return BAD;
        }
        Person one = now.people[person];
        switch (what) {
            case 0:
                return one.kind;
            case 1:
                return one.likedHour;
            case 2:
                return one.weight;
            case 3:
                return one.mayAct;
            default:
                return BAD;
        }
    }

    public int worth(int person, int hour, int k) {
        if (!now.hasPerson(person) || !isHour(hour) || !isWithin(k, MOST_NUMBER - 1)) {
            return BAD;
        }
        return now.people[person].worthOf(hour, k);
    }

    public int train(int hour, int waits) {
        if (!isHour(hour) || !isWithin(waits, MOST_WAIT)) {
            return BAD;
        }
        if (now.trainCount >= MOST_TRAINS) {
            return FULL;
        }
        now.trainHours[now.trainCount] = hour;
        now.trainWaits[now.trainCount] = waits;
        now.trainCount++;
        return now.trainCount - 1;
    }

    public int strike() {
        if (now.trainCount == 0) {
            return NONE;
        }
        now.trainCount--;
        return now.trainCount;
    }

    public int set(int what, int v) {
        if (!isWithin(v, mostOfSetting(what))) {
            return BAD;
        }
        int before = is(what);
        switch (what) {
            case 0:
                now.jar = v;
                break;
            case 1:
                now.leak = v;
                break;
            case 2:
                now.term = v;
                break;
            default:
                now.due = v;
                break;
        }
        return before;
    }

    public int loss(int hour, int v) {
        if (!isHour(hour) || !isWithin(v, MOST_LOSS)) {
            return BAD;
        }
        int before = now.losses[hour];
        now.losses[hour] = v;
        return before;
    }

    public int type(long w, int n) {
        if (n < 1 || n > 8) {
            return BAD;
        }
        for (int i = 0; i < n; i++) {
            if (!Tape.isSign(byteOf(w, i))) {
                return BAD;
            }
        }
        if (tape.count > TAPE_LENGTH - n) {
            return FULL;
        }
        for (int i = n - 1; i >= 0; i--) {
            tape.add(byteOf(w, i));
        }
        return tape.count;
    }

    public int town() {
        int answer = tape.readTown();
        tape.clear();
        if (answer >= 0) {
            now.takePeople(tape.readPeople, answer);
        }
        return answer;
    }

    public int plan() {
        int answer = tape.readPlan();
        tape.clear();
        if (answer >= 0) {
            System.arraycopy(tape.readNumbers, 0, now.planned, 0, HOURS);
        }
        return answer;
    }

    public int lay(int hour, int v) {
        if (!isHour(hour) || !isNumber(v)) {
            return BAD - LESS;
        }
        int before = now.planned[hour];
        now.planned[hour] = v;
        return before;
    }

    public int is(int what) {
        switch (what) {
            case 0:
                return now.jar;
            case 1:
                return now.leak;
            case 2:
                return now.term;
            case 3:
                return now.due;
            case 4:
                return now.peopleCount;
            case 5:
                return now.trainCount;
            case 6:
                return now.daysDone;
            case 7:
                return now.happiness;
            default:
                return BAD - LESS;
        }
    }

    // ---- 2 days

    public int late(int hour) {
        if (!isWithin(hour, HOURS)) {
            return BAD - LESS;
        }
        return lateAt(now.planned, hour);
    }

    public int gain() {
        return now.gainOf(now.planned);
    }

    public int wrong() {
        return now.firstWrong(now.planned);
    }

    public int missed() {
        return now.missedBy(now.planned);
    }

    public int day() {
        if (now.firstWrong(now.planned) != NONE) {
            return NOT - LESS;
        }
        if (now.daysDone >= MOST_DAYS) {
            return FULL - LESS;
        }
        return now.liveDay(now.planned);
    }

    public int best(int end, int i) {
        if (!isWithin(end, 1) || i < -1 || i >= HOURS) {
            return BAD - LESS;
        }
        int most = planner.mostGain(now, NOBODY, end == 1);
        if (i < 0) {
            return most;
        }
        planner.findRow();
        return planner.row[i];
    }

    public int spend(int n) {
        if (n < 1 || n > MOST_DAYS_AT_ONCE) {
            return BAD - LESS;
        }
        if (now.daysDone > MOST_DAYS - n) {
            return FULL - LESS;
        }
        int together = 0;
        for (int i = 0; i < n; i++) {
            planner.mostGain(now, NOBODY, false);
            planner.findRow();
            together += now.liveDay(planner.row);
        }
        return together;
    }

    public int share(int person) {
        if (!now.hasPerson(person)) {
            return BAD;
        }
        int with = planner.mostGain(now, NOBODY, false);
        int without = planner.mostGain(now, person, false);
        return with - without;
    }

    public int vote(int how) {
        if (how < HEADS || how > NEED) {
            return BAD;
        }
        int winner = NONE;
        int most = 0;
        for (int hour = 0; hour < HOURS; hour++) {
            int votes = now.votesFor(hour, how);
            if (votes > most) {
                most = votes;
                winner = hour;
            }
        }
        return winner;
    }

    public int choice(int person) {
        if (!now.hasPerson(person)) {
            return BAD;
        }
        return now.people[person].favouriteHour();
    }

    // ---- 3 clocks, lots

    public int lots(int n) {
        if (n < 1 || n > MOST_DAYS_AT_ONCE) {
            return BAD - LESS;
        }
        if (now.daysDone > MOST_DAYS - n) {
            return FULL - LESS;
        }
        int together = 0;
        for (int i = 0; i < n; i++) {
            now.drawPlan(drawnRow);
            together += now.liveDay(drawnRow);
        }
        return together;
    }

    public int seed(int v) {
        if (v < 0) {
            return BAD;
        }
        int before = now.draw;
        now.draw = v;
        return before;
    }

    public int image() {
        kept.becomeLike(now);
        hasImage = true;
        return 1;
    }

    public int restore() {
        if (!hasImage) {
            return NONE;
        }
        now.becomeLike(kept);
        return 1;
    }

    // ---- 4 sheets 0 .. 3: nothing (at first), or a row of a LANE: 0 bytes, 1 ints, 2 longs, of 0 to 24 items

    public long clocks(int sheet, int lane, int from, int n) {
        int refusal = clocksRefusal(sheet, lane, from, n);
        if (refusal != 0) {
            return refusal;
        }
        clockRows.tell(sheets[sheet], from, n);
        return clockRows.countAll();
    }

    public int sure(int hour, int sheet, int lane, int from, int n) {
        if (!isHour(hour)) {
            return BAD;
        }
        int refusal = clocksRefusal(sheet, lane, from, n);
        if (refusal != 0) {
            return refusal;
        }
        clockRows.tell(sheets[sheet], from, n);
        return clockRows.sureNumber(hour);
    }

    public int film(int sheet, int lane, int from) {
        int refusal = rowRefusal(sheet, lane, from, HOURS);
        if (refusal != 0) {
            return refusal;
        }
        for (int hour = 0; hour < HOURS; hour++) {
            sheets[sheet].put(from + hour, now.planned[hour]);
        }
        return HOURS;
    }

    public int build(int sheet, int lane, int from) {
        int refusal = rowRefusal(sheet, lane, from, HOURS);
        if (refusal != 0) {
            return refusal - LESS;
        }
        long[] items = sheets[sheet].items;
        for (int hour = 0; hour < HOURS; hour++) {
            if (!isNumber(items[from + hour])) {
                return NOT - LESS;
            }
        }
        for (int hour = 0; hour < HOURS; hour++) {
            now.planned[hour] = (int) items[from + hour];
        }
        return now.gainOf(now.planned);
    }

    public int sheet(int sheet, int lane, int n) {
        if (!isSheet(sheet) || !isLane(lane) || n > MOST_ITEMS) {
            return BAD;
        }
        if (n < 0) {
            return SIZE;
        }
        sheets[sheet].begin(lane, n);
        return n;
    }

    public int drop(int sheet) {
        if (!isSheet(sheet)) {
            return BAD;
        }
        if (sheets[sheet].lane == NOTHING) {
            return NULL;
        }
        int had = sheets[sheet].count;
        sheets[sheet].begin(NOTHING, 0);
        return had;
    }

    public int item(int sheet, int lane, int i, long v) {
        int refusal = rowRefusal(sheet, lane, i, 1);
        if (refusal != 0) {
            return refusal;
        }
        sheets[sheet].put(i, v);
        return 1;
    }

    public int copy(int from, int i, int to, int j, int n) {
        if (!isSheet(from) || !isSheet(to)) {
            return BAD;
        }
        Sheet source = sheets[from];
        Sheet target = sheets[to];
        if (source.lane == NOTHING || target.lane == NOTHING) {
            return NULL;
        }
        if (source.lane != target.lane) {
            return CAST;
        }
        if (!source.hasRange(i, n) || !target.hasRange(j, n)) {
            return INDEX;
        }
        System.arraycopy(source.items, i, target.items, j, n);
        return n;
    }

    // What the calls share

    private static boolean isWithin(int v, int most) {
        return v >= 0 && v <= most;
    }

    private static boolean isHour(int hour) {
        return hour >= 0 && hour < HOURS;
    }

    /** Takes a long, since an item of a SHEET must not lose its high bits ahead of the test. */
    private static boolean isNumber(long v) {
        return v >= LEAST_NUMBER && v <= MOST_NUMBER;
    }

    private static boolean isSheet(int sheet) {
        return sheet >= 0 && sheet < SHEETS;
    }

    private static boolean isLane(int lane) {
        return lane >= BYTES && lane <= LONGS;
    }

    /** NO_SETTING is below all that can be set: no v is within it. */
    private static int mostOfSetting(int what) {
        switch (what) {
            case 0:
                return MOST_JAR;
            case 1:
            case 2:
                return MOST_RHYTHM;
            case 3:
                return MOST_DUE;
            default:
                return NO_SETTING;
        }
    }

    /** The i-th byte of w, from the lowest on. */
    private static int byteOf(long w, int i) {
        return (int) (w >>> (8 * i)) & 255;
    }

    /** How far two HOURS are APART, the shorter way round the clock. */
    private static int apart(int a, int b) {
        int way = Math.abs(a - b);
        return Math.min(way, HOURS - way);
    }

    private static int lateAt(int[] row, int hour) {
        int late = 0;
        for (int h = 0; h < hour && h < row.length; h++) {
            late += row[h];
        }
        return late;
    }

    /** Why n items of a SHEET from one on can't be taken as a row of a LANE; 0, if they can. */
    private int rowRefusal(int sheet, int lane, int from, int n) {
        if (!isSheet(sheet) || !isLane(lane)) {
            return BAD;
        }
        if (sheets[sheet].lane == NOTHING) {
            return NULL;
        }
        if (sheets[sheet].lane != lane) {
            return CAST;
        }
        return sheets[sheet].hasRange(from, n) ? 0 : INDEX;
    }

    /** Why a SHEET can't be taken for CLOCKS; 0, if it can. */
    private int clocksRefusal(int sheet, int lane, int from, int n) {
        if (n < 1 || n > MOST_CLOCKS) {
            return BAD;
        }
        int refusal = rowRefusal(sheet, lane, from, 2 * n);
        if (refusal != 0) {
            return refusal;
        }
        long[] items = sheets[sheet].items;
        for (int i = 0; i < n; i++) {
            long hour = items[from + 2 * i];
            if (hour < 0 || hour > HOURS) {
                return NOT;
            }
        }
        return 0;
    }

    /** One of PEOPLE. */
    private static final class Person {
        int kind;
        int likedHour;
        int weight;
        int mayAct;

        void become(int newKind, int newHour, int newWeight, int newMay) {
            kind = newKind;
            likedHour = newHour;
            weight = newWeight;
            mayAct = newMay;
        }

        void becomeLike(Person other) {
            become(other.kind, other.likedHour, other.weight, other.mayAct);
        }

        int worthOf(int hour, int k) {
            int way = apart(likedHour, hour);
            switch (kind) {
                case CLERK:
                    return way == 0 ? weight : 0;
                case LOVER:
                    return way <= 1 ? weight : 0;
                case COOK:
                    return cookWorth(way);
                default:
                    // cutting k halves one by one is the same as a shift, as nothing here is below 0
                    return cookWorth(way) >> k;
            }
        }

        private int cookWorth(int way) {
            return Math.max(weight - 3 * way, 0);
        }

        /** The HOUR this one is for; NONE, if for none, or he MAY not act. */
        int favouriteHour() {
            int favourite = NONE;
            int most = 0;
            for (int hour = 0; hour < HOURS && mayAct == 1; hour++) {
                int value = worthOf(hour, 0);
                if (value > most) {
                    most = value;
                    favourite = hour;
                }
            }
            return favourite;
        }
    }

    /** All that an IMAGE keeps. */
    private static final class Town {
        final Person[] people = new Person[MOST_PEOPLE];
        int peopleCount = 0;
        final int[] trainHours = new int[MOST_TRAINS];
        final int[] trainWaits = new int[MOST_TRAINS];
        int trainCount = 0;
        final int[] losses = new int[HOURS];
        final int[] planned = new int[HOURS];
        int jar = 11;
        int leak = 0;
        int term = 0;
        int due = 1;
        int daysDone = 0;
        int happiness = 0;
        int draw = 1;

        Town() {
            for (int i = 0; i < MOST_PEOPLE; i++) {
                people[i] = new Person();
            }
            Arrays.fill(losses, 5);
        }

        void becomeLike(Town other) {
            takePeople(other.people, other.peopleCount);
            System.arraycopy(other.trainHours, 0, trainHours, 0, MOST_TRAINS);
            System.arraycopy(other.trainWaits, 0, trainWaits, 0, MOST_TRAINS);
            trainCount = other.trainCount;
            System.arraycopy(other.losses, 0, losses, 0, HOURS);
            System.arraycopy(other.planned, 0, planned, 0, HOURS);
            jar = other.jar;
            leak = other.leak;
            term = other.term;
            due = other.due;
            daysDone = other.daysDone;
            happiness = other.happiness;
            draw = other.draw;
        }

        void takePeople(Person[] from, int n) {
            for (int i = 0; i < n && i < MOST_PEOPLE; i++) {
                people[i].becomeLike(from[i]);
            }
            peopleCount = n;
        }

        boolean hasPerson(int person) {
            return person >= 0 && person < peopleCount;
        }

        /** GAIN of one HOUR with that number, as if the one without might not act (NOBODY: all as told). */
        int gainAt(int hour, int number, int without) {
            if (number < 0) {
                return number * losses[hour];
            }
            int together = 0;
            for (int i = 0; i < peopleCount; i++) {
                for (int k = 0; k < number && i != without && people[i].mayAct == 1; k++) {
                    together += people[i].worthOf(hour, k);
                }
            }
            return together;
        }

        int gainOf(int[] row) {
            int together = 0;
            for (int hour = 0; hour < HOURS; hour++) {
                together += gainAt(hour, row[hour], NOBODY);
            }
            return together;
        }

        /** By how much the town may be LATE at an HOUR (24: at the end) at most. */
        int mostLateAt(int hour) {
            int most = jar;
            for (int i = 0; i < trainCount; i++) {
                if (trainHours[i] == hour) {
                    most = Math.min(most, trainWaits[i]);
                }
            }
            return most;
        }

        int missedBy(int[] row) {
            int set = 0;
            for (int i = 0; i < trainCount; i++) {
                if (lateAt(row, trainHours[i]) > trainWaits[i]) {
                    set |= 1 << i;
                }
            }
            return set;
        }

        int firstWrong(int[] row) {
            int late = 0;
            for (int hour = 0; hour < HOURS; hour++) {
                // more than THE JAR has can't be new here: it was found behind the HOUR ahead
                if (late > mostLateAt(hour)) {
                    return hour;
                }
                late += row[hour];
                if (late < 0 || late > jar) {
                    return hour;
                }
            }
            return NONE;
        }

        /** Does a DAY by a row that the caller knows to be LAWFUL: its GAIN. */
        int liveDay(int[] row) {
            int gained = gainOf(row);
            jar -= lateAt(row, HOURS);
            happiness += gained;
            daysDone++;
            if (leak > 0 && daysDone % leak == 0) {
                jar = Math.max(jar - 1, 0);
            }
            if (term > 0 && daysDone % term == 0) {
                jar = Math.min(jar + due, MOST_JAR);
            }
            return gained;
        }

        int votesFor(int hour, int how) {
            int votes = 0;
            for (int i = 0; i < peopleCount; i++) {
                Person one = people[i];
                if (how == NEED) {
                    votes += one.mayAct == 1 ? one.worthOf(hour, 0) : 0;
                } else if (one.favouriteHour() == hour) {
                    votes += how == WEIGHTS ? one.weight : 1;
                }
            }
            return votes;
        }

        /** Draws the numbers of one DAY of LOTS. */
        void drawPlan(int[] row) {
            int late = 0;
            for (int hour = 0; hour < HOURS; hour++) {
                draw = (int) ((draw * 1103515245L + 12345L) & 0x7FFFFFFFL);
                int number = draw / 65536 % NUMBERS + LEAST_NUMBER;
                int behind = late + number;
                row[hour] = behind >= 0 && behind <= mostLateAt(hour + 1) ? number : 0;
                late += row[hour];
            }
            // a 0 in place of a number can still miss a TRAIN
            if (firstWrong(row) != NONE) {
                Arrays.fill(row, 0);
            }
        }
    }

    /** Finds BEST and END: from the last HOUR back, the most GAIN from each HOUR on for each way to be LATE at it. */
    private static final class Planner {
        private static final int LATES = MOST_JAR + 1;
        /** Below each true GAIN: nothing LAWFUL comes from here. */
        private static final int DEAD = -LESS;

        final int[] gains = new int[HOURS * NUMBERS];
        final int[] most = new int[(HOURS + 1) * LATES];
        final int[] row = new int[HOURS];

        int mostGain(Town town, int without, boolean endsAtZero) {
            for (int hour = 0; hour < HOURS; hour++) {
                for (int i = 0; i < NUMBERS; i++) {
                    gains[hour * NUMBERS + i] = town.gainAt(hour, i + LEAST_NUMBER, without);
                }
            }
            Arrays.fill(most, DEAD);
            int mostAtEnd = endsAtZero ? 0 : town.mostLateAt(HOURS);
            for (int late = 0; late <= mostAtEnd && late < LATES; late++) {
                most[HOURS * LATES + late] = 0;
            }
            for (int hour = HOURS - 1; hour >= 0; hour--) {
                int mostLate = town.mostLateAt(hour);
                for (int late = 0; late <= mostLate && late < LATES; late++) {
                    most[hour * LATES + late] = mostFrom(hour, late);
                }
            }
            return most[0];
        }

        private int mostFrom(int hour, int late) {
            int found = DEAD;
            for (int i = 0; i < NUMBERS; i++) {
                found = Math.max(found, mostBy(hour, late, i));
            }
            return found;
        }

        /** The most GAIN from an HOUR on, if that HOUR has its i-th number; DEAD, if that comes to nothing. */
        private int mostBy(int hour, int late, int i) {
            int behind = late + i + LEAST_NUMBER;
            if (behind < 0 || behind >= LATES) {
                return DEAD;
            }
            int later = most[(hour + 1) * LATES + behind];
            return later == DEAD ? DEAD : gains[hour * NUMBERS + i] + later;
        }

        /** Behind mostGain: the first row that has it. */
        void findRow() {
            int late = 0;
            for (int hour = 0; hour < HOURS; hour++) {
                int number = firstBest(hour, late);
                row[hour] = number;
                late += number;
            }
        }

        private int firstBest(int hour, int late) {
            int wanted = most[hour * LATES + late];
            for (int i = 0; i < NUMBERS && wanted != DEAD; i++) {
                if (mostBy(hour, late, i) == wanted) {
                    return i + LEAST_NUMBER;
                }
            }
            return 0;
        }
    }

    /** Counts the ROWS of CLOCKS. */
    private static final class ClockRows {
        private static final int UNTOLD = -1, NEVER = -2;

        final int[] told = new int[HOURS + 1];
        final long[] ways = new long[MOST_CLOCK_LATE + 1];

        /** Takes n pairs of a SHEET, whose HOURS the caller has looked at. */
        void tell(Sheet sheet, int from, int n) {
            Arrays.fill(told, UNTOLD);
            for (int i = 0; i < n; i++) {
                int hour = (int) sheet.items[from + 2 * i];
                long late = sheet.items[from + 2 * i + 1];
                boolean canBe = late >= 0 && late <= MOST_CLOCK_LATE;
                if (canBe && (told[hour] == UNTOLD || told[hour] == late)) {
                    told[hour] = (int) late;
                } else {
                    told[hour] = NEVER;
                }
            }
        }

        long countAll() {
            return countWith(NOBODY, 0);
        }

        int sureNumber(int hour) {
            int found = NONE;
            for (int number = 0; number <= MOST_CLOCK_NUMBER; number++) {
                if (countWith(hour, number) > 0) {
                    if (found != NONE) {
                        return NONE;
                    }
                    found = number;
                }
            }
            return found;
        }

        /** How many ROWS have that number at one HOUR (no such HOUR: any). */
        private long countWith(int fixedHour, int fixedNumber) {
            Arrays.fill(ways, 0L);
            ways[0] = 1;
            keepTold(0);
            for (int hour = 0; hour < HOURS; hour++) {
                int least = hour == fixedHour ? fixedNumber : 0;
                int most = hour == fixedHour ? fixedNumber : MOST_CLOCK_NUMBER;
                passHour(least, most);
                keepTold(hour + 1);
            }
            long together = 0;
            for (int late = 0; late <= MOST_CLOCK_LATE; late++) {
                together += ways[late];
            }
            return together;
        }

        /** From the top down, so that what is read still stands for the HOUR ahead. */
        private void passHour(int least, int most) {
            for (int late = MOST_CLOCK_LATE; late >= 0; late--) {
                long together = 0;
                for (int number = least; number <= most && number <= late; number++) {
                    together += ways[late - number];
                }
                ways[late] = together;
            }
        }

        private void keepTold(int hour) {
            for (int late = 0; late <= MOST_CLOCK_LATE && told[hour] != UNTOLD; late++) {
                if (late != told[hour]) {
                    ways[late] = 0;
                }
            }
        }
    }

    /** A SHEET; its items stand as longs, cut to what their LANE can hold. */
    private static final class Sheet {
        int lane = NOTHING;
        int count = 0;
        final long[] items = new long[MOST_ITEMS];

        void begin(int newLane, int n) {
            lane = newLane;
            count = n;
            Arrays.fill(items, 0L);
        }

        void put(int i, long v) {
            if (lane == BYTES) {
                items[i] = (byte) v;
            } else if (lane == INTS) {
                items[i] = (int) v;
            } else {
                items[i] = v;
            }
        }

        /** Subtracts rather than adds, so that no sum passes what an int holds. */
        boolean hasRange(int from, int n) {
            return n >= 0 && from >= 0 && from <= count - n;
        }
    }

    /** THE TAPE, and the reading of it: each answer below 0 of a reading is a FAULT. */
    private static final class Tape {
        /** Above each number that may be, so that a long row of figures stays one that may not. */
        private static final int TOO_MUCH = 1000;

        final char[] bytes = new char[TAPE_LENGTH];
        int count = 0;
        private int place = 0;
        private int numberPlace = 0;
        final Person[] readPeople = new Person[MOST_PEOPLE];
        final int[] readNumbers = new int[HOURS];

        Tape() {
            for (int i = 0; i < MOST_PEOPLE; i++) {
                readPeople[i] = new Person();
            }
        }

        static boolean isSign(int b) {
            return b >= 32 && b <= 126;
        }

        private static boolean isFigure(int b) {
            return b >= '0' && b <= '9';
        }

        void add(int b) {
            if (count < TAPE_LENGTH) {
                bytes[count] = (char) b;
                count++;
            }
        }

        void clear() {
            count = 0;
        }

        /** The next byte that is no blank; END, if there is none. */
        private int next() {
            while (place < count && bytes[place] == ' ') {
                place++;
            }
            return place < count ? bytes[place] : END;
        }

        /** Passes the next byte, if it is that one. */
        private boolean passes(char wanted) {
            if (next() != wanted) {
                return false;
            }
            place++;
            return true;
        }

        private int faultHere() {
            return FIRST_FAULT - place;
        }

        private int readNumber(int most) {
            if (!isFigure(next())) {
                return faultHere();
            }
            numberPlace = place;
            int value = 0;
            while (place < count && isFigure(bytes[place])) {
                value = Math.min(value * 10 + bytes[place] - '0', TOO_MUCH);
                place++;
            }
            return value > most ? FIRST_FAULT - numberPlace : value;
        }

        /** A TOWN: how many PEOPLE, who stand in readPeople then. */
        int readTown() {
            place = 0;
            for (int i = 0; i < MOST_PEOPLE; i++) {
                int fault = readPerson(readPeople[i]);
                if (fault < 0) {
                    return fault;
                }
                if (next() == END) {
                    return i + 1;
                }
                if (i + 1 == MOST_PEOPLE || !passes(',')) {
                    return faultHere();
                }
            }
            return faultHere();
        }

        private int readPerson(Person one) {
            int kind = kindOf(next());
            if (kind < 0) {
                return faultHere();
            }
            place++;
            int hour = readNumber(HOURS - 1);
            if (hour < 0) {
                return hour;
            }
            int weight = passes('w') ? readNumber(MOST_WEIGHT) : 1;
            if (weight < 0) {
                return weight;
            }
            one.become(kind, hour, weight, passes('-') ? 0 : 1);
            return 0;
        }

        private static int kindOf(int b) {
            switch (b) {
                case 'c':
                    return CLERK;
                case 'l':
                    return LOVER;
                case 'k':
                    return COOK;
                case 'p':
                    return PLAYER;
                default:
                    return NOBODY;
            }
        }

        /** A PLAN: how many HOURS it tells; the numbers of all stand in readNumbers then. */
        int readPlan() {
            place = 0;
            Arrays.fill(readNumbers, 0);
            if (next() == END) {
                return 0;
            }
            int toldHours = 0;
            for (int i = 0; i < HOURS; i++) {
                int hour = readNumber(HOURS - 1);
                if (hour < 0) {
                    return hour;
                }
                if ((toldHours >> hour & 1) != 0) {
                    return FIRST_FAULT - numberPlace;
                }
                toldHours |= 1 << hour;
                int fault = readHourNumber(hour);
                if (fault < 0) {
                    return fault;
                }
                if (next() == END) {
                    return i + 1;
                }
                if (i + 1 == HOURS || !passes(',')) {
                    return faultHere();
                }
            }
            return faultHere();
        }

        private int readHourNumber(int hour) {
            boolean taken = passes('-');
            if (!taken && !passes('+')) {
                return faultHere();
            }
            int most = taken ? -LEAST_NUMBER : MOST_NUMBER;
            int digit = next() - '0';
            if (digit < 0 || digit > most) {
                return faultHere();
            }
            place++;
            readNumbers[hour] = taken ? -digit : digit;
            return 0;
        }
    }
}
