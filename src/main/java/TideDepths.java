/**
 * Depths by tide, in whole seconds and millimetres. ../shared/DOC.md says what each call promises.
 *
 * <p>Spans and sailings are not sought second by second: between two turns, while the correction
 * stays the same, the height only rises or only falls, so the two ends of such a stretch tell
 * whether anything within it needs a closer look.
 */
public final class TideDepths {
    public static final int NONE = -1;

    private static final int MOST_TURNS = 40;
    private static final int MOST_OBSERVATIONS = 16;
    private static final int MOST_PLACES = 12;

    private static final int LATEST_TIME = 20000;
    private static final long GREATEST_LEVEL = 100000;
    private static final long GREATEST_DRAFT = 30000;
    private static final long GREATEST_SPEED = 10000;
    private static final long GREATEST_WAY = 1000000;
    private static final long LEAST_DENSITY = 900;
    private static final long GREATEST_DENSITY = 1100;

    private static final long CENTIMETRES_A_METRE = 100;
    private static final long THOUSANDTHS = 1000;
    private static final long HALVING_SECONDS = 600;
    private static final int FIRST_OBSERVATION_READ = 100;

    private static final long COSINE_STEPS = 64;
    private static final long COSINE_WHOLE = 32768;
    private static final int[] COSINE = {
        0, 20, 79, 177, 315, 491, 705, 958, 1247, 1573, 1935, 2331, 2761, 3224, 3719, 4244,
        4799, 5381, 5990, 6624, 7282, 7961, 8661, 9379, 10114, 10864, 11628, 12403, 13188,
        13980, 14778, 15580, 16384, 17188, 17990, 18788, 19580, 20365, 21140, 21904, 22654,
        23389, 24107, 24807, 25486, 26144, 26778, 27387, 27969, 28524, 29049, 29544, 30007,
        30437, 30833, 31195, 31521, 31810, 32063, 32277, 32453, 32591, 32689, 32748, 32768
    };

    private static final long SQUAT_ROW_SPEED = 200;
    private static final int[] SQUAT_ROWS = {0, 3, 11, 24, 43, 68, 100};

    private final long[] turnTimes;
    private final long[] turnHeights;
    private int turns;

    private final long[] observedTimes;
    private final long[] differences;
    private int observations;

    private final long[] ways;
    private final long[] bases;
    private int places;

    public TideDepths() {
        turnTimes = new long[MOST_TURNS];
        turnHeights = new long[MOST_TURNS];
        turns = 0;
        observedTimes = new long[MOST_OBSERVATIONS];
        differences = new long[MOST_OBSERVATIONS];
        observations = 0;
        ways = new long[MOST_PLACES];
        bases = new long[MOST_PLACES];
        places = 0;
    }

    public int turn(long time, long height)
            throws IllegalArgumentException, IllegalStateException {
        if (!isWithin(time, 0, LATEST_TIME) || !isLevel(height)) {
            throw new IllegalArgumentException("no such time or height");
        }
        if (turns > 0 && time <= turnTimes[turns - 1]) {
            throw new IllegalArgumentException("not behind the last turn");
        }
        if (turns >= MOST_TURNS) {
            throw new IllegalStateException("no room for a turn");
        }
        if (!alternates(height)) {
            return 0;
        }
        turnTimes[turns] = time;
        turnHeights[turns] = height;
        turns++;
        return 1;
    }

    public long height(long time) throws IllegalArgumentException {
        if (!isInTable(time)) {
            throw new IllegalArgumentException("outside the table");
        }
        return heightAt(time);
    }

    public int observe(long time, long height)
            throws IllegalArgumentException, IllegalStateException {
        if (!isInTable(time) || !isLevel(height)) {
            throw new IllegalArgumentException("outside the table, or no such height");
        }
        if (observations > 0 && time < observedTimes[observations - 1]) {
            throw new IllegalArgumentException("ahead of the latest observation");
        }
        if (observations >= MOST_OBSERVATIONS) {
            throw new IllegalStateException("no room for an observation");
        }
        observedTimes[observations] = time;
        differences[observations] = height - tableHeight(time);
        observations++;
        return observations;
    }

    public int span(long base, long need, long from, int side) throws IllegalArgumentException {
        if (!isInTable(from) || !isLevel(base) || !isLevel(need) || !isWithin(side, 0, 3)) {
            throw new IllegalArgumentException("outside the table, or no such base, need or side");
        }
        long level = need - base;
        boolean ofLongest = side >= 2;
        long first = ofLongest ? longestSpan(level, from) : nextSecond(level, from, true);
        if (first > lastSecond()) {
            return NONE;
        }
        boolean asksFirst = side == 0 || side == 2;
        return (int) (asksFirst ? first : nextSecond(level, first, false) - 1);
    }

    public long squat(long speed, long draft) throws IllegalArgumentException {
        if (!isWithin(speed, 0, GREATEST_SPEED) || !isWithin(draft, 0, GREATEST_DRAFT)) {
            throw new IllegalArgumentException("no such speed or draft");
        }
        return squatOf(speed, draft);
    }

    public long passing(long way, long speed)
            throws IllegalArgumentException, ArithmeticException {
        if (!isWithin(way, 0, GREATEST_WAY) || !isWithin(speed, 0, GREATEST_SPEED)) {
            throw new IllegalArgumentException("no such way or speed");
        }
        if (speed == 0) {
            throw new ArithmeticException("speed 0");
        }
        return secondsFor(way, speed);
    }

    public int cosine(int i) throws ArrayIndexOutOfBoundsException {
        if (i < 0 || i >= COSINE.length) {
            throw new ArrayIndexOutOfBoundsException("no such number of the cosine");
        }
        return COSINE[i];
    }

    public long draft(long draft, long before, long after) throws IllegalArgumentException {
        if (!isWithin(draft, 0, GREATEST_DRAFT) || !isDensity(before) || !isDensity(after)) {
            throw new IllegalArgumentException("no such draft or density");
        }
        return dividedUp(draft * before, after);
    }

    public int place(long way, long base)
            throws IllegalArgumentException, IllegalStateException {
        if (!isWithin(way, 0, GREATEST_WAY) || !isLevel(base)) {
            throw new IllegalArgumentException("no such way or base");
        }
        if (places > 0 && way <= ways[places - 1]) {
            throw new IllegalArgumentException("not above the last place's way");
        }
        if (places >= MOST_PLACES) {
            throw new IllegalStateException("no room for a place");
        }
        ways[places] = way;
        bases[places] = base;
        places++;
        return places - 1;
    }

    public long depth(int place, long time)
            throws IndexOutOfBoundsException, IllegalArgumentException {
        if (place < 0 || place >= places) {
            throw new IndexOutOfBoundsException("no such place");
        }
        if (!isInTable(time)) {
            throw new IllegalArgumentException("outside the table");
        }
        return bases[place] + heightAt(time);
    }

    public int sail(long need, long speed, long from, int side)
            throws IllegalArgumentException, IllegalStateException, ArithmeticException {
        if (!isInTable(from) || !isLevel(need)) {
            throw new IllegalArgumentException("outside the table, or no such need");
        }
        if (!isWithin(speed, 0, GREATEST_SPEED) || !isWithin(side, 0, 1)) {
            throw new IllegalArgumentException("no such speed or side");
        }
        if (places == 0) {
            throw new IllegalStateException("no places");
        }
        if (speed == 0) {
            throw new ArithmeticException("speed 0");
        }
        long needUnderWay = need < 0 ? need : need + squatOf(speed, need);
        long first = firstSailing(needUnderWay, speed, from);
        if (first > lastSecond()) {
            return NONE;
        }
        return (int) (side == 0 ? first : lastSailing(needUnderWay, speed, first));
    }

    public long read(int i, int what) throws IndexOutOfBoundsException {
        boolean ofTurn = what == 0 || what == 1;
        if (ofTurn && i >= 0 && i < turns) {
            return what == 0 ? turnTimes[i] : turnHeights[i];
        }
        boolean ofObservation = what == 2 || what == 3;
        if (ofObservation && i >= FIRST_OBSERVATION_READ
                && i - FIRST_OBSERVATION_READ < observations) {
            int told = i - FIRST_OBSERVATION_READ;
            return what == 2 ? observedTimes[told] : differences[told];
        }
        throw new IndexOutOfBoundsException("nothing such to read");
    }

    public int count(int what) {
        switch (what) {
            case 0:
                return turns;
            case 1:
                return observations;
            case 2:
                return places;
            case 3:
                return (int) firstSecond();
            case 4:
                return (int) lastSecond();
            default:
                return NONE;
        }
    }

    private static boolean isWithin(long value, long least, long greatest) {
        return value >= least && value <= greatest;
    }

    private static boolean isLevel(long value) {
        return isWithin(value, -GREATEST_LEVEL, GREATEST_LEVEL);
    }

    private static boolean isDensity(long value) {
        return isWithin(value, LEAST_DENSITY, GREATEST_DENSITY);
    }

    private static long dividedUp(long value, long divisor) {
        if (divisor <= 0) {
            return 0;
        }
        return (value + divisor - 1) / divisor;
    }

    private static long secondsFor(long way, long speed) {
        return dividedUp(CENTIMETRES_A_METRE * way, speed);
    }

    private static long squatOf(long speed, long draft) {
        return dividedUp(draft * squatThousandths(speed), THOUSANDTHS);
    }

    private static long squatThousandths(long speed) {
        int row = (int) (speed / SQUAT_ROW_SPEED);
        if (row < 0 || row + 1 >= SQUAT_ROWS.length) {
            return SQUAT_ROWS[SQUAT_ROWS.length - 1];
        }
        long rise = SQUAT_ROWS[row + 1] - SQUAT_ROWS[row];
        return SQUAT_ROWS[row] + rise * (speed - row * SQUAT_ROW_SPEED) / SQUAT_ROW_SPEED;
    }

    private boolean alternates(long height) {
        if (turns == 0) {
            return true;
        }
        long last = turnHeights[turns - 1];
        if (turns == 1) {
            return height != last;
        }
        boolean lastIsAbove = last > turnHeights[turns - 2];
        return lastIsAbove ? height < last : height > last;
    }

    private boolean hasTable() {
        return turns >= 2;
    }

    private long firstSecond() {
        return hasTable() ? turnTimes[0] : NONE;
    }

    private long lastSecond() {
        return hasTable() ? turnTimes[turns - 1] : NONE;
    }

    private boolean isInTable(long time) {
        return hasTable() && isWithin(time, firstSecond(), lastSecond());
    }

    // Going from the last one down gives, of several of one time, the last told.
    private static int lastNotBehind(long time, long[] times, int told) {
        for (int i = told - 1; i >= 0; i--) {
            if (times[i] <= time) {
                return i;
            }
        }
        return NONE;
    }

    private long heightAt(long time) {
        return tableHeight(time) + correction(time);
    }

    private long tableHeight(long time) {
        int i = lastNotBehind(time, turnTimes, turns);
        if (i < 0) {
            return 0;
        }
        long height = turnHeights[i];
        if (i + 1 >= turns) {
            return height;
        }
        long part = cosinePart(time - turnTimes[i], turnTimes[i + 1] - turnTimes[i]);
        return height + Math.floorDiv((turnHeights[i + 1] - height) * part, COSINE_WHOLE);
    }

    private static long cosinePart(long gone, long whole) {
        if (whole <= 0) {
            return COSINE_WHOLE;
        }
        long scaled = COSINE_STEPS * gone;
        int i = (int) (scaled / whole);
        if (i < 0 || i + 1 >= COSINE.length) {
            return COSINE_WHOLE;
        }
        long step = COSINE[i + 1] - COSINE[i];
        return COSINE[i] + step * (scaled - i * whole) / whole;
    }

    private long correction(long time) {
        int i = lastNotBehind(time, observedTimes, observations);
        if (i < 0) {
            return 0;
        }
        long left = differences[i];
        long halvings = (time - observedTimes[i]) / HALVING_SECONDS;
        for (long n = 0; n < halvings; n++) {
            left /= 2;
        }
        return left;
    }

    /** The last second up to which, from this one on, the height only rises or only falls. */
    private long stretchEnd(long time) {
        int i = lastNotBehind(time, turnTimes, turns);
        long turnsAt = i + 1 < turns ? turnTimes[i + 1] : lastSecond();
        return Math.min(turnsAt, correctionEnd(time));
    }

    private long correctionEnd(long time) {
        long end = LATEST_TIME;
        int i = lastNotBehind(time, observedTimes, observations);
        if (i + 1 < observations) {
            end = observedTimes[i + 1] - 1;
        }
        if (i < 0) {
            return end;
        }
        long intoHalving = (time - observedTimes[i]) % HALVING_SECONDS;
        return Math.min(end, time + HALVING_SECONDS - 1 - intoHalving);
    }

    /**
     * The first second from one on at which the height reaches the level (or, if that is asked,
     * does not); the one behind the table's last if there is none.
     */
    private long nextSecond(long level, long from, boolean reaching) {
        long last = lastSecond();
        long time = from;
        for (int stretch = 0; stretch <= LATEST_TIME && time <= last; stretch++) {
            if ((heightAt(time) >= level) == reaching) {
                return time;
            }
            long end = stretchEnd(time);
            if ((heightAt(end) >= level) == reaching) {
                return changeWithin(level, time, end, reaching);
            }
            time = end + 1;
        }
        return last + 1;
    }

    /** The first second that is as sought, of a stretch whose end is so and whose start is not. */
    private long changeWithin(long level, long start, long end, boolean reaching) {
        long notYet = start;
        long already = end;
        for (int n = 0; n <= LATEST_TIME && already - notYet > 1; n++) {
            long middle = (notYet + already) / 2;
            if ((heightAt(middle) >= level) == reaching) {
                already = middle;
            } else {
                notYet = middle;
            }
        }
        return already;
    }

    private long longestSpan(long level, long from) {
        long last = lastSecond();
        long longest = last + 1;
        long greatestLength = 0;
        long first = nextSecond(level, from, true);
        for (int n = 0; n <= LATEST_TIME && first <= last; n++) {
            long behind = nextSecond(level, first, false);
            if (behind - first > greatestLength) {
                greatestLength = behind - first;
                longest = first;
            }
            first = nextSecond(level, behind, true);
        }
        return longest;
    }

    // A start that a place rules out is left for that place's next good one at once: none between
    // them can be the answer, whatever the other places say.
    private long firstSailing(long need, long speed, long from) {
        long last = lastSecond();
        long start = from;
        for (int round = 0; round <= LATEST_TIME; round++) {
            long before = start;
            for (int i = 0; i < places; i++) {
                long underWay = secondsFor(ways[i], speed);
                long passed = nextSecond(need - bases[i], start + underWay, true);
                if (passed > last) {
                    return last + 1;
                }
                start = passed - underWay;
            }
            if (start == before) {
                return start;
            }
        }
        return last + 1;
    }

    private long lastSailing(long need, long speed, long first) {
        long end = lastSecond();
        for (int i = 0; i < places; i++) {
            long underWay = secondsFor(ways[i], speed);
            long lacking = nextSecond(need - bases[i], first + underWay, false);
            end = Math.min(end, lacking - 1 - underWay);
        }
        return end;
    }
}
