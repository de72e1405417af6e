import java.util.List;
import java.util.function.Supplier;

/**
 * The fourteen promises, sentence by sentence: what they name as an edge is tried at it, one below
 * it and one above it. A comment above a test is the sentence that it holds.
 */
public final class PromiseEdgeTest {
    private static final Class<IllegalArgumentException> ARGUMENT = IllegalArgumentException.class;
    private static final Class<IllegalStateException> STATE = IllegalStateException.class;
    private static final Class<ArithmeticException> ARITHMETIC = ArithmeticException.class;
    private static final Class<IndexOutOfBoundsException> INDEX = IndexOutOfBoundsException.class;

    private static final long[] NO_SPEEDS = {-1, 10001, Long.MIN_VALUE, Long.MAX_VALUE};
    private static final long[] NO_WAYS = {-1, 1000001, Long.MIN_VALUE, Long.MAX_VALUE};
    private static final long[] NO_DENSITIES = {899, 1101, 0, -900, Long.MIN_VALUE, Long.MAX_VALUE};
    private static final long[] NO_LEVELS = {-100001, 100001, Long.MIN_VALUE, Long.MAX_VALUE};
    /** The seconds around the table of Made.tide() that it lacks. */
    private static final long[] OUTSIDE = {99, 421, -1, 20001, Long.MIN_VALUE, Long.MAX_VALUE};

    public static void main(String[] args) {
        newObject();
        newObjectsShareNothing();
        turnAnswers();
        turnThatCannotBe();
        turnNotBehind();
        turnIfThereAreForty();
        heightOutside();
        observeAnswers();
        observeOutside();
        observeAhead();
        observeHeightThatCannotBe();
        observeIfThereAreSixteen();
        spanToTheTablesEnd();
        spanOfTheFirst();
        spanOfTheLongest();
        spanWithout();
        spanThatCannotBe();
        squatSpeeds();
        passingWays();
        passingSpeeds();
        cosineNumbers();
        draftDensities();
        draftRoundedUp();
        placeNumbers();
        placeWays();
        placeIfThereAreTwelve();
        depthOfPlaces();
        depthOutside();
        sailFirst();
        sailLast();
        sailWithout();
        sailThatCannotBe();
        sailWithoutPlaces();
        sailSpeeds();
        readTurns();
        readObservations();
        readOtherWhats();
        countEach();
        countTable();
        countOtherWhats();
        Check.end();
    }

    // Promise 1. No turns, observations, places.
    private static void newObject() {
        int[] due = {0, 0, 0, -1, -1};
        for (int i = 0; i < due.length; i++) {
            int what = i;
            Edge.asked("new: count(" + what + ")", due[i], Made::empty, t -> t.count(what));
        }
        for (int i = 0; i < 4; i++) {
            int what = i;
            int least = what < 2 ? 0 : 100;
            Edge.refused("new: read, " + what, INDEX, Made::empty, t -> t.read(least, what));
        }
        Edge.refused("new: depth", INDEX, Made::empty, t -> t.depth(0, 0));
        Edge.refused("new: height", ARGUMENT, Made::empty, t -> t.height(0));
        Edge.refused("new: observe", ARGUMENT, Made::empty, t -> t.observe(0, 0));
        Edge.refused("new: span", ARGUMENT, Made::empty, t -> t.span(0, 0, 0, 0));
        Edge.refused("new: sail", ARGUMENT, Made::empty, t -> t.sail(0, 1, 0, 0));
        Edge.taken("new: turn", 1, Made::empty, t -> t.turn(5, 6), 1, t -> t.count(0));
        Edge.taken("new: place", 0, Made::empty, t -> t.place(5, 6), 1, t -> t.count(2));
    }

    private static void newObjectsShareNothing() {
        TideDepths one = Made.full();
        TideDepths other = new TideDepths();
        for (int i = 0; i < 3; i++) {
            int what = i;
            Check.due("another: count(" + what + ")", 0, () -> other.count(what));
        }
        Check.due("another: turn(0, 5)", 1, () -> other.turn(0, 5));
        Check.due("another: place(0, 5)", 0, () -> other.place(0, 5));
        Check.due("the one: read(0, 0)", 10, () -> one.read(0, 0));
        Check.due("the one: depth(0, 10)", 2700, () -> one.depth(0, 10));
        Check.due("the one: count(0)", 40, () -> one.count(0));
    }

    // Promise 2. One more turn: 1; 0 if it does not alternate.
    private static void turnAnswers() {
        Edge.taken("first turn", 1, Made::empty, t -> t.turn(0, 0), 1, t -> t.count(0));
        Edge.taken("second turn", 1, Made::oneTurn, t -> t.turn(101, 0), 2, t -> t.count(0));
        Edge.taken("third turn", 1, () -> Made.turnsTold(2), t -> t.turn(111, 0),
            3, t -> t.count(0));
        Edge.asked("second that does not", 0, Made::oneTurn, t -> t.turn(101, 50));
        Edge.asked("third that does not", 0, () -> Made.turnsTold(2), t -> t.turn(111, 701));
        Edge.asked("third of one height", 0, () -> Made.turnsTold(2), t -> t.turn(20000, 701));
        Edge.asked("fifth that does not", 0, Made::tide, t -> t.turn(421, 801));
        Edge.asked("fifth of one height", 0, Made::tide, t -> t.turn(421, 800));
        Edge.taken("fifth that does", 1, Made::tide, t -> t.turn(421, 799), 799, t -> t.read(4, 1));
    }

    // IllegalArgumentException if time or height can't be, ..
    private static void turnThatCannotBe() {
        for (Supplier<TideDepths> made : List.<Supplier<TideDepths>>of(
                Made::empty, Made::oneTurn, Made::tide, Made::full)) {
            for (long time : new long[] {-1, 20001, Long.MIN_VALUE, Long.MAX_VALUE}) {
                Edge.refused("turn(" + time + ", 0)", ARGUMENT, made, t -> t.turn(time, 0));
            }
            for (long height : NO_LEVELS) {
                Edge.refused("turn(20000, " + height + ")", ARGUMENT, made,
                    t -> t.turn(20000, height));
            }
        }
    }

    // .. or it is not behind the last one; ..
    private static void turnNotBehind() {
        for (long time : new long[] {0, 100, 291, 419, 420}) {
            Edge.refused("turn(" + time + ", 0)", ARGUMENT, Made::tide, t -> t.turn(time, 0));
            Edge.refused("turn(" + time + ", 900), which does not alternate", ARGUMENT, Made::tide,
                t -> t.turn(time, 900));
        }
        Edge.taken("turn(421, 0)", 1, Made::tide, t -> t.turn(421, 0), 421, t -> t.read(4, 0));
    }

    // .. IllegalStateException if there are 40.
    private static void turnIfThereAreForty() {
        for (long time : new long[] {3911, 3912, 19999, 20000}) {
            Edge.refused("turn 41 at " + time, STATE, Made::full, t -> t.turn(time, 0));
        }
        Edge.refused("turn 41 at 3910", ARGUMENT, Made::full, t -> t.turn(3910, 0));
        Edge.taken("turn 40 at 3911", 1, () -> Made.turnsTold(39), t -> t.turn(3911, 0),
            3911, t -> t.read(39, 0));
    }

    // Promise 3. IllegalArgumentException outside the table.
    private static void heightOutside() {
        for (long time : OUTSIDE) {
            Edge.refused("height(" + time + ")", ARGUMENT, Made::tide, t -> t.height(time));
        }
        Edge.asked("height(100)", -200, Made::tide, t -> t.height(100));
        Edge.asked("height(102)", -198, Made::tide, t -> t.height(102));
        Edge.asked("height(131)", 370, Made::tide, t -> t.height(131));
        Edge.asked("height(132)", 450, Made::tide, t -> t.height(132));
        Edge.asked("height(163)", 1049, Made::tide, t -> t.height(163));
        Edge.asked("height(164)", 1050, Made::tide, t -> t.height(164));
        Edge.asked("height(227)", 318, Made::tide, t -> t.height(227));
        Edge.asked("height(228)", 150, Made::tide, t -> t.height(228));
        Edge.asked("height(292)", -600, Made::tide, t -> t.height(292));
        Edge.asked("height(419)", 699, Made::tide, t -> t.height(419));
        Edge.asked("height(420)", 700, Made::tide, t -> t.height(420));
        Edge.refused("height(9) of all", ARGUMENT, Made::full, t -> t.height(9));
        Edge.refused("height(3911) of all", ARGUMENT, Made::full, t -> t.height(3911));
    }

    // Promise 4. An OBSERVATION: how many there are.
    private static void observeAnswers() {
        TideDepths tide = Made.flat();
        for (int i = 1; i <= 16; i++) {
            int told = i;
            Check.due("observation " + i, i, () -> tide.observe(1000 * told, told));
            Check.due("count(1)", i, () -> tide.count(1));
            Check.due("read(time)", 1000L * i, () -> tide.read(99 + told, 2));
            Check.due("read(difference)", i, () -> tide.read(99 + told, 3));
        }
    }

    // IllegalArgumentException outside the table, ..
    private static void observeOutside() {
        for (long time : OUTSIDE) {
            Edge.refused("observe(" + time + ", 0)", ARGUMENT, Made::tide, t -> t.observe(time, 0));
        }
        Supplier<TideDepths> none = () -> Made.withTurns(100, 3, 200, 4);
        Edge.refused("observe(99, 0)", ARGUMENT, none, t -> t.observe(99, 0));
        Edge.taken("observe(100, 0)", 1, none, t -> t.observe(100, 0), -3, t -> t.read(100, 3));
        Edge.taken("observe(101, 0)", 1, none, t -> t.observe(101, 0), 0, t -> t.height(101));
        Edge.taken("observe(199, 0)", 1, none, t -> t.observe(199, 0), 0, t -> t.height(199));
        Edge.taken("observe(200, 0)", 1, none, t -> t.observe(200, 0), -4, t -> t.read(100, 3));
        Edge.refused("observe(201, 0)", ARGUMENT, none, t -> t.observe(201, 0));
    }

    // .. ahead of the latest one, ..
    private static void observeAhead() {
        for (long time : new long[] {100, 132, 226, 227}) {
            Edge.refused("observe(" + time + ", 0)", ARGUMENT, Made::tide, t -> t.observe(time, 0));
        }
        Edge.taken("observe(228, 0)", 3, Made::tide, t -> t.observe(228, 0), 0, t -> t.height(228));
        Edge.taken("observe(229, 0)", 3, Made::tide, t -> t.observe(229, 0),
            150, t -> t.height(228));
        Edge.taken("a refused one is not the latest", 3,
            () -> afterRefused(Made.tide(), t -> t.observe(420, 100001)),
            t -> t.observe(228, 9), 9, t -> t.height(228));
    }

    private static TideDepths afterRefused(TideDepths tide, Edge.Use call) {
        Check.throwing("refused first", ARGUMENT, () -> call.on(tide));
        return tide;
    }

    // .. or if the height can't be; ..
    private static void observeHeightThatCannotBe() {
        for (long height : NO_LEVELS) {
            Edge.refused("observe(228, " + height + ")", ARGUMENT, Made::tide,
                t -> t.observe(228, height));
            Edge.refused("observe(3200, " + height + ")", ARGUMENT, Made::full,
                t -> t.observe(3200, height));
        }
        for (long height : new long[] {-100000, -99999, 99999, 100000}) {
            Edge.taken("observe(292, " + height + ")", 3, Made::tide, t -> t.observe(292, height),
                height + 500, t -> t.read(102, 3));
        }
    }

    // .. IllegalStateException if there are 16.
    private static void observeIfThereAreSixteen() {
        for (long time : new long[] {3200, 3201, 3909, 3910}) {
            Edge.refused("observation 17 at " + time, STATE, Made::full, t -> t.observe(time, 0));
        }
        Edge.refused("observation 17 at 3199", ARGUMENT, Made::full, t -> t.observe(3199, 0));
        Edge.refused("observation 17 at 3911", ARGUMENT, Made::full, t -> t.observe(3911, 0));
        Edge.taken("observation 16", 16, () -> Made.observationsTold(Made.turnsTold(40), 15),
            t -> t.observe(3200, 0), 0, t -> t.height(3200));
    }

    // Promise 5. Of seconds from one on to the table's end: ..
    private static void spanToTheTablesEnd() {
        spans(Made::flat, 0, 0, 0, 0, 20000, 0, 20000);
        spans(Made::flat, 0, 0, 1, 1, 20000, 1, 20000);
        spans(Made::flat, 0, 0, 19999, 19999, 20000, 19999, 20000);
        spans(Made::flat, 0, 0, 20000, 20000, 20000, 20000, 20000);
        spans(Made::flat, 0, 1, 0, 20000, 20000, 20000, 20000);
        spans(Made::flat, 0, 1, 20000, 20000, 20000, 20000, 20000);
        // The table ends in the middle of what suffices; one more turn goes on with it.
        spans(() -> Made.withTurns(100, 0, 164, 32768), 0, 16384, 100, 132, 164, 132, 164);
        spans(() -> Made.withTurns(100, 0, 164, 32768, 228, 0), 0, 16384, 100, 132, 196, 132, 196);
        spans(() -> Made.withTurns(100, 32768, 164, 0), 0, 16384, 100, 100, 132, 100, 132);
    }

    private static void spans(Supplier<TideDepths> made, long base, long need, long from,
            long... due) {
        TideDepths tide = made.get();
        for (int i = 0; i < due.length; i++) {
            int side = i;
            Check.due("span(" + base + ", " + need + ", " + from + ", " + side + ")", due[i],
                () -> tide.span(base, need, from, side));
        }
    }

    /** Height 5 from 1000 and from 3000 on for so many seconds, else 0. */
    private static Supplier<TideDepths> twoSpans(long firstLength, long secondLength) {
        return () -> {
            TideDepths tide = Made.flat();
            tide.observe(1000, 5);
            tide.observe(1000 + firstLength, 0);
            tide.observe(3000, 5);
            tide.observe(3000 + secondLength, 0);
            return tide;
        };
    }

    // .. side 0: the first second of the first SPAN, 1: its last one; ..
    private static void spanOfTheFirst() {
        spans(twoSpans(100, 100), 0, 5, 0, 1000, 1099);
        spans(twoSpans(1, 100), 0, 5, 0, 1000, 1000);
        spans(twoSpans(2, 100), 0, 5, 0, 1000, 1001);
        spans(twoSpans(0, 100), 0, 5, 0, 3000, 3099);
        spans(twoSpans(599, 100), 0, 5, 0, 1000, 1598);
        spans(twoSpans(600, 100), 0, 5, 0, 1000, 1599);
        // Halved behind 600 seconds, it suffices no longer.
        spans(twoSpans(601, 100), 0, 5, 0, 1000, 1599);
    }

    // .. 2, 3: those of the longest one (of such the first); ..
    private static void spanOfTheLongest() {
        spans(twoSpans(100, 99), 0, 5, 0, 1000, 1099, 1000, 1099);
        spans(twoSpans(100, 100), 0, 5, 0, 1000, 1099, 1000, 1099);
        spans(twoSpans(100, 101), 0, 5, 0, 1000, 1099, 3000, 3100);
        spans(twoSpans(1, 1), 0, 5, 0, 1000, 1000, 1000, 1000);
        spans(twoSpans(1, 2), 0, 5, 0, 1000, 1000, 3000, 3001);
        // Of the first one only what is looked at counts.
        spans(twoSpans(101, 100), 0, 5, 1000, 1000, 1100, 1000, 1100);
        spans(twoSpans(101, 100), 0, 5, 1001, 1001, 1100, 1001, 1100);
        spans(twoSpans(101, 100), 0, 5, 1002, 1002, 1100, 3000, 3099);
        // The last second of all is a third span.
        spans(twoSpans(1, 1), 4, 5, 3001, 20000, 20000, 20000, 20000);
    }

    // .. NONE without.
    private static void spanWithout() {
        spans(Made::flat, 0, 1, 19999, 20000, 20000, 20000, 20000);
        spans(Made::flat, 0, 2, 0, -1, -1, -1, -1);
        spans(twoSpans(100, 100), 0, 5, 3099, 3099, 3099, 3099, 3099);
        spans(twoSpans(100, 100), 0, 5, 3100, -1, -1, -1, -1);
        spans(twoSpans(100, 100), 0, 6, 0, -1, -1, -1, -1);
        spans(Made::wide, -100000, 1, 0, -1, -1, -1, -1);
        spans(Made::wide, -100000, 0, 0, 20000, 20000, 20000, 20000);
        spans(Made::wide, -100000, 100000, 0, -1, -1, -1, -1);
        spans(Made::wide, 100000, -100000, 0, 0, 20000, 0, 20000);
    }

    // IllegalArgumentException if from is outside the table, a base, need or side can't be.
    private static void spanThatCannotBe() {
        for (long from : OUTSIDE) {
            Edge.refused("span from " + from, ARGUMENT, Made::tide, t -> t.span(0, 0, from, 0));
        }
        Edge.asked("span from 100", 100, Made::tide, t -> t.span(200, 0, 100, 0));
        Edge.asked("span from 101", 101, Made::tide, t -> t.span(200, 0, 101, 0));
        Edge.asked("span from 419", 419, Made::tide, t -> t.span(0, 0, 419, 0));
        Edge.asked("span from 420", 420, Made::tide, t -> t.span(0, 0, 420, 0));
        for (long level : NO_LEVELS) {
            Edge.refused("span, base " + level, ARGUMENT, Made::tide,
                t -> t.span(level, 0, 100, 0));
            Edge.refused("span, need " + level, ARGUMENT, Made::tide,
                t -> t.span(0, level, 100, 0));
            Edge.refused("span, both " + level, ARGUMENT, Made::tide,
                t -> t.span(level, level, 100, 0));
        }
        for (int side : new int[] {-1, 4, Integer.MIN_VALUE, Integer.MAX_VALUE}) {
            Edge.refused("span, side " + side, ARGUMENT, Made::tide, t -> t.span(0, 0, 100, side));
        }
        long[] due = {122, 230, 122, 230};
        for (int i = 0; i < due.length; i++) {
            int side = i;
            Edge.asked("span, side " + side, due[i], Made::tide, t -> t.span(0, 100, 100, side));
        }
    }

    // Promise 6. IllegalArgumentException if the speed is not 0 .. 10000, or the draft can't be.
    private static void squatSpeeds() {
        for (long speed : NO_SPEEDS) {
            Edge.refused("squat(" + speed + ", 1000)", ARGUMENT, Made::tide,
                t -> t.squat(speed, 1000));
            Edge.refused("squat(" + speed + ", 0)", ARGUMENT, Made::tide, t -> t.squat(speed, 0));
            Edge.refused("squat(" + speed + ", -1)", ARGUMENT, Made::tide, t -> t.squat(speed, -1));
        }
        Edge.asked("squat(0, 30000)", 0, Made::tide, t -> t.squat(0, 30000));
        Edge.asked("squat(1, 30000)", 0, Made::tide, t -> t.squat(1, 30000));
        Edge.asked("squat(9999, 30000)", 3000, Made::tide, t -> t.squat(9999, 30000));
        Edge.asked("squat(10000, 30000)", 3000, Made::tide, t -> t.squat(10000, 30000));
        for (long draft : new long[] {-1, 30001, Long.MIN_VALUE, Long.MAX_VALUE}) {
            Edge.refused("squat(0, " + draft + ")", ARGUMENT, Made::tide, t -> t.squat(0, draft));
        }
    }

    // Promise 7. IllegalArgumentException if the way is not 0 .. 1000000, ..
    private static void passingWays() {
        for (long way : NO_WAYS) {
            Edge.refused("passing(" + way + ", 1)", ARGUMENT, Made::tide, t -> t.passing(way, 1));
            Edge.refused("passing(" + way + ", 0)", ARGUMENT, Made::tide, t -> t.passing(way, 0));
        }
        Edge.asked("passing(0, 1)", 0, Made::tide, t -> t.passing(0, 1));
        Edge.asked("passing(1, 1)", 100, Made::tide, t -> t.passing(1, 1));
        Edge.asked("passing(999999, 1)", 99999900, Made::tide, t -> t.passing(999999, 1));
        Edge.asked("passing(1000000, 1)", 100000000, Made::tide, t -> t.passing(1000000, 1));
    }

    // .. or the speed not 0 .. 10000; ArithmeticException for speed 0.
    private static void passingSpeeds() {
        for (long speed : NO_SPEEDS) {
            Edge.refused("passing(0, " + speed + ")", ARGUMENT, Made::tide,
                t -> t.passing(0, speed));
        }
        Edge.refused("passing(0, 0)", ARITHMETIC, Made::tide, t -> t.passing(0, 0));
        Edge.refused("passing(5, 0)", ARITHMETIC, Made::tide, t -> t.passing(5, 0));
        Edge.asked("passing(1000000, 9999)", 10002, Made::tide, t -> t.passing(1000000, 9999));
        Edge.asked("passing(1000000, 10000)", 10000, Made::tide, t -> t.passing(1000000, 10000));
    }

    // Promise 8. ArrayIndexOutOfBoundsException if there is none such.
    private static void cosineNumbers() {
        for (int i : new int[] {-2, -1, 65, 66, Integer.MIN_VALUE, Integer.MAX_VALUE}) {
            Edge.refused("cosine(" + i + ")", ArrayIndexOutOfBoundsException.class, Made::full,
                t -> t.cosine(i));
        }
        for (int n = 0; n <= 64; n++) {
            int i = n;
            Edge.asked("cosine(" + i + ")", PlainTide.COSINE[i], Made::full, t -> t.cosine(i));
        }
    }

    // Promise 9. Density 900 .. 1100. IllegalArgumentException if these can't be.
    private static void draftDensities() {
        for (long density : NO_DENSITIES) {
            Edge.refused("draft from " + density, ARGUMENT, Made::tide,
                t -> t.draft(0, density, 1000));
            Edge.refused("draft into " + density, ARGUMENT, Made::tide,
                t -> t.draft(0, 1000, density));
            Edge.refused("draft from and into " + density, ARGUMENT, Made::tide,
                t -> t.draft(0, density, density));
        }
        for (long density : new long[] {900, 901, 1099, 1100}) {
            Edge.asked("draft from " + density, density, Made::tide,
                t -> t.draft(1000, density, 1000));
            Edge.asked("draft into " + density, 1000, Made::tide,
                t -> t.draft(density, 1000, density));
        }
        for (long draft : new long[] {-1, 30001, Long.MIN_VALUE, Long.MAX_VALUE}) {
            Edge.refused("draft of " + draft, ARGUMENT, Made::tide, t -> t.draft(draft, 900, 900));
        }
    }

    // draft * before / after, rounded up.
    private static void draftRoundedUp() {
        Edge.asked("8.9", 9, Made::empty, t -> t.draft(8, 1000, 900));
        Edge.asked("10", 10, Made::empty, t -> t.draft(9, 1000, 900));
        Edge.asked("11.1", 12, Made::empty, t -> t.draft(10, 1000, 900));
        Edge.asked("0", 0, Made::empty, t -> t.draft(0, 1100, 900));
        Edge.asked("0.8", 1, Made::empty, t -> t.draft(1, 900, 1100));
        Edge.asked("1.2", 2, Made::empty, t -> t.draft(1, 1100, 900));
        Edge.asked("36666.7", 36667, Made::empty, t -> t.draft(30000, 1100, 900));
        Edge.asked("36665.4", 36666, Made::empty, t -> t.draft(29999, 1100, 900));
        Edge.asked("24545.5", 24546, Made::empty, t -> t.draft(30000, 900, 1100));
    }

    // Promise 10. One more PLACE: its number.
    private static void placeNumbers() {
        TideDepths tide = Made.flat();
        for (int i = 0; i < 12; i++) {
            int number = i;
            Check.due("place " + i, i, () -> tide.place(number, 50 - number));
            Check.due("count(2)", i + 1, () -> tide.count(2));
            Check.due("depth(" + i + ", 0)", 50 - i, () -> tide.depth(number, 0));
        }
    }

    // IllegalArgumentException if its way is not 0 .. 1000000, or not above the last one's, ..
    private static void placeWays() {
        for (long way : NO_WAYS) {
            Edge.refused("place(" + way + ", 0)", ARGUMENT, Made::empty, t -> t.place(way, 0));
            Edge.refused("place(" + way + ", 0)", ARGUMENT, Made::tide, t -> t.place(way, 0));
            Edge.refused("place(" + way + ", 0)", ARGUMENT, Made::full, t -> t.place(way, 0));
        }
        for (long way : new long[] {0, 1, 999999, 1000000}) {
            Edge.taken("place(" + way + ", 7)", 0, Made::flat, t -> t.place(way, 7),
                20000 - (way + 99) / 100, t -> t.sail(0, 10000, 0, 1));
        }
        for (long way : new long[] {0, 50, 119, 120}) {
            Edge.refused("place(" + way + ", 0)", ARGUMENT, Made::tide, t -> t.place(way, 0));
        }
        Edge.taken("place(121, 0)", 3, Made::tide, t -> t.place(121, 0),
            -600, t -> t.depth(3, 292));
        Edge.taken("place(1000000, 0)", 3, Made::tide, t -> t.place(1000000, 0),
            4, t -> t.count(2));
        Edge.taken("a refused one is not the last", 3,
            () -> afterRefused(Made.tide(), t -> t.place(1000000, 100001)),
            t -> t.place(121, 9), 4, t -> t.count(2));
        for (long base : NO_LEVELS) {
            Edge.refused("place(121, " + base + ")", ARGUMENT, Made::tide, t -> t.place(121, base));
            Edge.refused("place(111, " + base + ")", ARGUMENT, Made::full, t -> t.place(111, base));
        }
    }

    // .. IllegalStateException if there are 12.
    private static void placeIfThereAreTwelve() {
        for (long way : new long[] {111, 112, 999999, 1000000}) {
            Edge.refused("place 13 at " + way, STATE, Made::full, t -> t.place(way, 0));
        }
        Edge.refused("place 13 at 110", ARGUMENT, Made::full, t -> t.place(110, 0));
        Edge.taken("place 12", 11, () -> Made.placesTold(Made.flat(), 11), t -> t.place(101, 0),
            12, t -> t.count(2));
    }

    // Promise 11. IndexOutOfBoundsException if there is no such place; ..
    private static void depthOfPlaces() {
        for (int place : new int[] {-1, 3, Integer.MIN_VALUE, Integer.MAX_VALUE}) {
            Edge.refused("depth(" + place + ", 100)", INDEX, Made::tide, t -> t.depth(place, 100));
            Edge.refused("depth(" + place + ", 99)", INDEX, Made::tide, t -> t.depth(place, 99));
        }
        long[] due = {4800, 3800, 5800};
        for (int i = 0; i < due.length; i++) {
            int place = i;
            Edge.asked("depth(" + i + ", 100)", due[i], Made::tide, t -> t.depth(place, 100));
        }
        Edge.refused("depth(12, 10) of all", INDEX, Made::full, t -> t.depth(12, 10));
        Edge.asked("depth(11, 10) of all", 3800, Made::full, t -> t.depth(11, 10));
        Edge.asked("depth(10, 10) of all", 3700, Made::full, t -> t.depth(10, 10));
        Edge.refused("depth(0, 0), none", INDEX, Made::wide, t -> t.depth(0, 0));
    }

    // .. IllegalArgumentException outside the table.
    private static void depthOutside() {
        for (long time : OUTSIDE) {
            Edge.refused("depth(0, " + time + ")", ARGUMENT, Made::tide, t -> t.depth(0, time));
            Edge.refused("depth(2, " + time + ")", ARGUMENT, Made::tide, t -> t.depth(2, time));
        }
        Edge.asked("depth(1, 100)", 3800, Made::tide, t -> t.depth(1, 100));
        Edge.asked("depth(1, 102)", 3802, Made::tide, t -> t.depth(1, 102));
        Edge.asked("depth(1, 419)", 4699, Made::tide, t -> t.depth(1, 419));
        Edge.asked("depth(1, 420)", 4700, Made::tide, t -> t.depth(1, 420));
        Edge.refused("depth without a table", ARGUMENT,
            () -> Made.placesTold(Made.oneTurn(), 1), t -> t.depth(0, 100));
        Edge.asked("depth above all heights", 200000,
            () -> placed(Made.wide(), 0, 100000), t -> t.depth(0, 20000));
        Edge.asked("depth below all heights", -200000,
            () -> placed(Made.wide(), 0, -100000), t -> t.depth(0, 0));
    }

    private static TideDepths placed(TideDepths tide, long... waysAndBases) {
        for (int i = 0; i + 1 < waysAndBases.length; i += 2) {
            tide.place(waysAndBases[i], waysAndBases[i + 1]);
        }
        return tide;
    }

    private static void sails(Supplier<TideDepths> made, long need, long speed, long from,
            long... due) {
        TideDepths tide = made.get();
        for (int i = 0; i < due.length; i++) {
            int side = i;
            Check.due("sail(" + need + ", " + speed + ", " + from + ", " + side + ")", due[i],
                () -> tide.sail(need, speed, from, side));
        }
    }

    /** 1000 .. 1099 and 3000 .. 3199 suffice at the first place; the second is 10 s behind it. */
    private static TideDepths twoRows() {
        return placed(twoSpans(100, 200).get(), 0, -5, 10, -5);
    }

    // Promise 12. Of seconds from one on at which to SAIL along all places: side 0: the first, ..
    private static void sailFirst() {
        sails(PromiseEdgeTest::twoRows, 0, 100, 0, 1000);
        sails(PromiseEdgeTest::twoRows, 0, 100, 999, 1000);
        sails(PromiseEdgeTest::twoRows, 0, 100, 1000, 1000);
        sails(PromiseEdgeTest::twoRows, 0, 100, 1001, 1001);
        sails(PromiseEdgeTest::twoRows, 0, 100, 1089, 1089);
        sails(PromiseEdgeTest::twoRows, 0, 100, 1090, 3000);
        // The second place decides where the first one always suffices.
        sails(() -> placed(twoSpans(100, 200).get(), 0, 0, 10, -5), 0, 100, 989, 990);
        sails(() -> placed(twoSpans(100, 200).get(), 0, 0, 10, -5), 0, 100, 990, 990);
        sails(() -> placed(twoSpans(100, 200).get(), 0, 0, 10, -5), 0, 100, 1089, 1089);
        sails(() -> placed(twoSpans(100, 200).get(), 0, 0, 10, -5), 0, 100, 1090, 2990);
        // The one place is passed in the first row, the other one in the second.
        sails(() -> placed(twoSpans(100, 200).get(), 0, -5, 1900, -5), 0, 100, 0, -1, -1);
        sails(() -> placed(twoSpans(100, 200).get(), 0, -5, 1901, -5), 0, 100, 0, 1099, 1099);
        sails(() -> placed(twoSpans(100, 200).get(), 0, -5, 2000, -5), 0, 100, 0, 1000, 1099);
        sails(() -> placed(twoSpans(100, 200).get(), 0, -5, 2199, -5), 0, 100, 0, 1000, 1000);
        sails(() -> placed(twoSpans(100, 200).get(), 0, -5, 2200, -5), 0, 100, 0, -1, -1);
    }

    // .. 1: the last one up to which each one may be; ..
    private static void sailLast() {
        sails(PromiseEdgeTest::twoRows, 0, 100, 0, 1000, 1089);
        sails(PromiseEdgeTest::twoRows, 0, 100, 1088, 1088, 1089);
        sails(PromiseEdgeTest::twoRows, 0, 100, 1089, 1089, 1089);
        // The later row is the longer one, but not the one that is asked for.
        sails(PromiseEdgeTest::twoRows, 0, 100, 1090, 3000, 3189);
        sails(PromiseEdgeTest::twoRows, 0, 100, 3189, 3189, 3189);
        // Up to the table's end, less what the last place takes.
        sails(() -> placed(Made.flat(), 0, 0), 0, 100, 0, 0, 20000);
        sails(() -> placed(Made.flat(), 0, 0, 1, 0), 0, 100, 0, 0, 19999);
        sails(() -> placed(Made.flat(), 0, 0, 2, 0), 0, 100, 0, 0, 19998);
    }

    // .. NONE without.
    private static void sailWithout() {
        sails(PromiseEdgeTest::twoRows, 0, 100, 3190, -1, -1);
        sails(PromiseEdgeTest::twoRows, 1, 100, 0, -1, -1);
        sails(PromiseEdgeTest::twoRows, 100000, 100, 0, -1, -1);
        sails(() -> placed(Made.flat(), 1, 0), 0, 100, 19999, 19999, 19999);
        sails(() -> placed(Made.flat(), 1, 0), 0, 100, 20000, -1, -1);
        sails(() -> placed(Made.flat(), 0, 0), 0, 100, 20000, 20000, 20000);
    }

    // IllegalArgumentException if from is outside the table, the need, speed or side can't be; ..
    private static void sailThatCannotBe() {
        for (Supplier<TideDepths> made : List.<Supplier<TideDepths>>of(
                Made::tide, () -> Made.withTurns(100, 0, 420, 9))) {
            for (long from : OUTSIDE) {
                Edge.refused("sail from " + from, ARGUMENT, made, t -> t.sail(0, 100, from, 0));
            }
            for (long need : NO_LEVELS) {
                Edge.refused("sail, need " + need, ARGUMENT, made, t -> t.sail(need, 100, 100, 0));
            }
            for (long speed : NO_SPEEDS) {
                Edge.refused("sail, speed " + speed, ARGUMENT, made, t -> t.sail(0, speed, 100, 0));
            }
            for (int side : new int[] {-1, 2, 3, Integer.MIN_VALUE, Integer.MAX_VALUE}) {
                Edge.refused("sail, side " + side, ARGUMENT, made, t -> t.sail(0, 100, 100, side));
            }
        }
        Edge.asked("sail from 100", 100, Made::tide, t -> t.sail(0, 100, 100, 0));
        Edge.asked("sail from 101", 101, Made::tide, t -> t.sail(0, 100, 101, 0));
        Edge.asked("sail from 419", -1, Made::tide, t -> t.sail(0, 100, 419, 0));
        Edge.asked("sail from 420", -1, Made::tide, t -> t.sail(0, 100, 420, 0));
        Edge.asked("sail, side 0", 100, Made::tide, t -> t.sail(0, 100, 100, 0));
        Edge.asked("sail, side 1", 300, Made::tide, t -> t.sail(0, 100, 100, 1));
    }

    // .. IllegalStateException without places; ..
    private static void sailWithoutPlaces() {
        Edge.refused("sail, no places", STATE, Made::wide, t -> t.sail(0, 100, 0, 0));
        Edge.refused("sail, no places", STATE, Made::wide, t -> t.sail(100000, 10000, 20000, 1));
        Edge.refused("sail, no places, speed 0", STATE, Made::wide, t -> t.sail(0, 0, 0, 1));
        Edge.refused("sail, all but places", STATE,
            () -> Made.observationsTold(Made.turnsTold(40), 16), t -> t.sail(0, 100, 10, 0));
        for (int places = 1; places <= 12; places++) {
            int told = places;
            Edge.asked("sail, places: " + places, 20000 - 10 * (places - 1),
                () -> Made.placesTold(Made.flat(), told), t -> t.sail(0, 100, 0, 1));
        }
    }

    // .. ArithmeticException for speed 0.
    private static void sailSpeeds() {
        Edge.refused("sail, speed -1", ARGUMENT, Made::tide, t -> t.sail(0, -1, 100, 0));
        Edge.refused("sail, speed 0", ARITHMETIC, Made::tide, t -> t.sail(0, 0, 100, 0));
        Edge.refused("sail, speed 0", ARITHMETIC, Made::tide, t -> t.sail(-100000, 0, 420, 1));
        Edge.refused("sail, speed 0", ARITHMETIC, Made::full, t -> t.sail(100000, 0, 10, 1));
        sails(() -> placed(Made.flat(), 0, 0, 100, 0), 0, 1, 0, 0, 10000);
        sails(() -> placed(Made.flat(), 0, 0, 100, 0), 0, 2, 0, 0, 15000);
        sails(() -> placed(Made.flat(), 0, 0, 100, 0), 0, 9999, 0, 0, 19998);
        sails(() -> placed(Made.flat(), 0, 0, 100, 0), 0, 10000, 0, 0, 19999);
        Edge.refused("sail, speed 10001", ARGUMENT, Made::tide, t -> t.sail(0, 10001, 100, 0));
    }

    // Promise 13. Of a turn: what 0: its time, 1: its height.
    private static void readTurns() {
        for (int i : new int[] {-1, 4, 99, 100, Integer.MIN_VALUE, Integer.MAX_VALUE}) {
            Edge.refused("read(" + i + ", 0)", INDEX, Made::tide, t -> t.read(i, 0));
            Edge.refused("read(" + i + ", 1)", INDEX, Made::tide, t -> t.read(i, 1));
        }
        long[] due = {100, -200, 164, 1000, 292, -500, 420, 800};
        for (int n = 0; n < due.length; n++) {
            int i = n / 2;
            int what = n % 2;
            Edge.asked("read(" + i + ", " + what + ")", due[n], Made::tide, t -> t.read(i, what));
        }
        Edge.asked("read(38, 1) of all", -338, Made::full, t -> t.read(38, 1));
        Edge.asked("read(39, 0) of all", 3910, Made::full, t -> t.read(39, 0));
        Edge.asked("read(39, 1) of all", 739, Made::full, t -> t.read(39, 1));
        Edge.refused("read(40, 0) of all", INDEX, Made::full, t -> t.read(40, 0));
        Edge.refused("read(40, 1) of all", INDEX, Made::full, t -> t.read(40, 1));
        Edge.asked("read(0, 0), one turn", 100, Made::oneTurn, t -> t.read(0, 0));
        Edge.refused("read(1, 0), one turn", INDEX, Made::oneTurn, t -> t.read(1, 0));
    }

    // Of observation i - 100: 2: its time, 3: its DIFFERENCE.
    private static void readObservations() {
        for (int i : new int[] {-1, 0, 1, 99, 102, Integer.MIN_VALUE, Integer.MIN_VALUE + 99,
                Integer.MIN_VALUE + 100, Integer.MIN_VALUE + 101, Integer.MAX_VALUE}) {
            Edge.refused("read(" + i + ", 2)", INDEX, Made::tide, t -> t.read(i, 2));
            Edge.refused("read(" + i + ", 3)", INDEX, Made::tide, t -> t.read(i, 3));
        }
        long[] due = {132, 50, 228, -100};
        for (int n = 0; n < due.length; n++) {
            int i = 100 + n / 2;
            int what = 2 + n % 2;
            Edge.asked("read(" + i + ", " + what + ")", due[n], Made::tide, t -> t.read(i, what));
        }
        Edge.asked("read(114, 2) of all", 3000, Made::full, t -> t.read(114, 2));
        Edge.asked("read(115, 2) of all", 3200, Made::full, t -> t.read(115, 2));
        Edge.refused("read(116, 2) of all", INDEX, Made::full, t -> t.read(116, 2));
        Edge.refused("read(116, 3) of all", INDEX, Made::full, t -> t.read(116, 3));
        Edge.refused("read(99, 2) of all", INDEX, Made::full, t -> t.read(99, 2));
        Edge.refused("read(100, 2), none", INDEX, Made::wide, t -> t.read(100, 2));
        Edge.refused("read(100, 3), none", INDEX, Made::wide, t -> t.read(100, 3));
    }

    // IndexOutOfBoundsException if there is none such.
    private static void readOtherWhats() {
        for (int what : new int[] {-1, 4, 5, Integer.MIN_VALUE, Integer.MAX_VALUE}) {
            Edge.refused("read(0, " + what + ")", INDEX, Made::tide, t -> t.read(0, what));
            Edge.refused("read(100, " + what + ")", INDEX, Made::tide, t -> t.read(100, what));
        }
    }

    // Promise 14. what 0: turns, 1: observations, 2: places.
    private static void countEach() {
        long[] due = {4, 2, 3};
        long[] dueOfAll = {40, 16, 12};
        for (int i = 0; i < due.length; i++) {
            int what = i;
            Edge.asked("count(" + what + ")", due[i], Made::tide, t -> t.count(what));
            Edge.asked("count(" + what + ") of all", dueOfAll[i], Made::full, t -> t.count(what));
        }
    }

    // 3, 4: the table's first and last second (NONE without one).
    private static void countTable() {
        long[][] due = {{-1, -1}, {-1, -1}, {10, 110}, {10, 210}};
        for (int turns = 0; turns < due.length; turns++) {
            int told = turns;
            Edge.asked("first, turns: " + turns, due[turns][0], () -> Made.turnsTold(told),
                t -> t.count(3));
            Edge.asked("last, turns: " + turns, due[turns][1], () -> Made.turnsTold(told),
                t -> t.count(4));
        }
        Edge.asked("first of all times", 0, Made::wide, t -> t.count(3));
        Edge.asked("last of all times", 20000, Made::wide, t -> t.count(4));
        Edge.asked("a turn that does not alternate makes no table", 0, Made::oneTurn,
            t -> t.turn(101, 50));
    }

    // NONE for another what.
    private static void countOtherWhats() {
        for (int what : new int[] {-1, 5, 6, 100, Integer.MIN_VALUE, Integer.MAX_VALUE}) {
            Edge.asked("count(" + what + ")", TideDepths.NONE, Made::tide, t -> t.count(what));
            Edge.asked("count(" + what + ")", -1, Made::full, t -> t.count(what));
        }
    }
}
