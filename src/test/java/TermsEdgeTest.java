import java.util.List;
import java.util.function.Supplier;

/**
 * "What it is" and "Terms", sentence by sentence: what they name as an edge is tried at it, one
 * below it and one above it. A comment above a test is the sentence that it holds.
 */
public final class TermsEdgeTest {
    private static final Class<IllegalArgumentException> ARGUMENT = IllegalArgumentException.class;
    private static final Class<IllegalStateException> STATE = IllegalStateException.class;
    private static final Class<ArithmeticException> ARITHMETIC = ArithmeticException.class;
    private static final Class<IndexOutOfBoundsException> INDEX = IndexOutOfBoundsException.class;
    private static final Class<ArrayIndexOutOfBoundsException> ARRAY_INDEX =
        ArrayIndexOutOfBoundsException.class;

    private static final long[] NO_TIMES = {-1, 20001, Long.MIN_VALUE, Long.MAX_VALUE};
    private static final long[] NO_LEVELS = {-100001, 100001, Long.MIN_VALUE, Long.MAX_VALUE};
    private static final long[] NO_DRAFTS = {-1, 30001, Long.MIN_VALUE, Long.MAX_VALUE};
    private static final long[] LEVELS = {-100000, -99999, 99999, 100000};

    public static void main(String[] args) {
        callsOfEachKindAsTheLast();
        dearCallsToTheLast();
        timesOfTurns();
        timesOfTheWidestTable();
        heightsOfTurns();
        heightsOfObservations();
        basesOfSpans();
        basesOfPlaces();
        needsOfSpans();
        needsOfSailings();
        drafts();
        floorRoundsDown();
        turnsWithRisingTimes();
        fortyTurnsAtMost();
        aThirdTurnBehindARise();
        aThirdTurnBehindAFall();
        noTwoOfOneHeight();
        theTableFromFirstToLast();
        noTableWithLessThanTwo();
        sixtyFiveCosines();
        aTurnsHeightAtItsTime();
        stepsBetweenTurns();
        shortAndLongStretches();
        sixteenObservationsAtMost();
        eachNotAheadOfTheOneBefore();
        theDifference();
        theLatestObservation();
        ofOneTimeTheLastTold();
        noObservationNoCorrection();
        halvedBySixHundredSeconds();
        halvedTowardsZero();
        halvedUntilNothingIsLeft();
        theHeight();
        laterTurnsChangeNoDifference();
        theDepth();
        notBelowTheNeed();
        spansAsLongAsCanBe();
        squatRows();
        squatBetweenRows();
        squatAboveTheLastRow();
        squatRoundedUp();
        passingRoundedUp();
        passingWithSpeedNought();
        twelvePlacesAtMost();
        waysRise();
        passedWithinTheTable();
        sufficesWithSquat();
        ofANeedBelowNoughtNoSquat();
        theExceptionToldFirst();
        whatThrowsChangesNothing();
        whatIsAskedChangesNothing();
        noneIsOneBelowNought();
        Check.end();
    }

    // An object is used for at most 512 calls after it has been made.
    private static void callsOfEachKindAsTheLast() {
        last("turn", 1, t -> t.turn(421, 0), 1, t -> t.turn(422, 1));
        last("turn that does not alternate", 0, t -> t.turn(421, 800), 0, t -> t.turn(421, 801));
        last("height", 1050, t -> t.height(164), 700, t -> t.height(420));
        last("observe", 3, t -> t.observe(228, 0), 4, t -> t.observe(420, 0));
        last("span", 132, t -> t.span(0, 450, 100, 0), 227, t -> t.span(0, 276, 100, 1));
        last("squat", 3000, t -> t.squat(1200, 30000), 1, t -> t.squat(1200, 1));
        last("passing", 50, t -> t.passing(50, 100), 120, t -> t.passing(120, 100));
        last("cosine", 0, t -> t.cosine(0), 32768, t -> t.cosine(64));
        last("draft", 11, t -> t.draft(10, 1100, 1000), 9, t -> t.draft(10, 900, 1000));
        last("place", 3, t -> t.place(121, 0), 4, t -> t.place(122, 0));
        last("depth", 4800, t -> t.depth(0, 100), 6700, t -> t.depth(2, 420));
        last("sail", 100, t -> t.sail(0, 100, 100, 0), 300, t -> t.sail(0, 100, 100, 1));
        last("read", 420, t -> t.read(3, 0), -100, t -> t.read(101, 3));
        last("count", 4, t -> t.count(0), 420, t -> t.count(4));
    }

    private static void last(String what, long want511, Edge.Use call511,
            long want512, Edge.Use call512) {
        TideDepths tide = Made.tide();
        for (int call = Made.TIDE_CALLS + 1; call <= 510; call++) {
            int n = call;
            Check.outcome(() -> usual(tide, n));
        }
        Check.due("call 511: " + what, want511, () -> call511.on(tide));
        Check.due("call 512: " + what, want512, () -> call512.on(tide));
    }

    /** Calls that are answered and calls that are refused, and none that changes anything. */
    private static long usual(TideDepths tide, int n) {
        return switch (n % 8) {
            case 0 -> tide.height(100 + n % 321);
            case 1 -> tide.turn(420, n);
            case 2 -> tide.span(0, n, 100, n / 8 % 4);
            case 3 -> tide.observe(227, n);
            case 4 -> tide.sail(4 * n, 100, 100, n / 8 % 2);
            case 5 -> tide.place(120, n);
            case 6 -> tide.turn(421, 800 + n);
            default -> tide.read(n, n / 8 % 4);
        };
    }

    private static void dearCallsToTheLast() {
        TideDepths tide = Made.full();
        String[] before = new String[8];
        for (int call = Made.FULL_CALLS + 1; call <= 512; call++) {
            int n = call % 8;
            String got = Check.outcome(() -> n < 4
                ? tide.sail(3000 + 100 * n, 90, 10, n % 2) : tide.span(0, 50 * n, 10, n - 4));
            before[n] = before[n] == null ? got : before[n];
            Check.report("call " + call, before[n], got);
        }
    }

    // Times are whole seconds 0 .. 20000.
    private static void timesOfTurns() {
        for (long time : new long[] {0, 1, 19999, 20000}) {
            Edge.taken("turn at " + time, 1, Made::empty, t -> t.turn(time, 5),
                time, t -> t.read(0, 0));
        }
        for (long time : NO_TIMES) {
            Edge.refused("turn at " + time, ARGUMENT, Made::empty, t -> t.turn(time, 5));
            Edge.refused("turn at " + time, ARGUMENT, Made::tide, t -> t.turn(time, 5));
        }
    }

    private static void timesOfTheWidestTable() {
        Edge.asked("height at 0", -100000, Made::wide, t -> t.height(0));
        Edge.asked("height at 1", -100000, Made::wide, t -> t.height(1));
        Edge.asked("height at 19999", 99993, Made::wide, t -> t.height(19999));
        Edge.asked("height at 20000", 100000, Made::wide, t -> t.height(20000));
        for (long time : new long[] {0, 1, 19999, 20000}) {
            Edge.taken("observe at " + time, 1, Made::wide, t -> t.observe(time, 0),
                time, t -> t.read(100, 2));
            Edge.asked("span from " + time, time, Made::wide, t -> t.span(0, -100000, time, 0));
            Edge.asked("sail from " + time, time, TermsEdgeTest::wideWithPlace,
                t -> t.sail(-100000, 1, time, 0));
        }
        for (long time : NO_TIMES) {
            Edge.refused("height at " + time, ARGUMENT, Made::wide, t -> t.height(time));
            Edge.refused("observe at " + time, ARGUMENT, Made::wide, t -> t.observe(time, 0));
            Edge.refused("span from " + time, ARGUMENT, Made::wide, t -> t.span(0, 0, time, 0));
            Edge.refused("sail from " + time, ARGUMENT, TermsEdgeTest::wideWithPlace,
                t -> t.sail(0, 1, time, 0));
            Edge.refused("depth at " + time, ARGUMENT, TermsEdgeTest::wideWithPlace,
                t -> t.depth(0, time));
        }
    }

    private static TideDepths wideWithPlace() {
        return withPlaces(Made.wide(), 0, 0);
    }

    private static TideDepths withPlaces(TideDepths tide, long... waysAndBases) {
        for (int i = 0; i + 1 < waysAndBases.length; i += 2) {
            tide.place(waysAndBases[i], waysAndBases[i + 1]);
        }
        return tide;
    }

    private static TideDepths observed(TideDepths tide, long... timesAndHeights) {
        for (int i = 0; i + 1 < timesAndHeights.length; i += 2) {
            tide.observe(timesAndHeights[i], timesAndHeights[i + 1]);
        }
        return tide;
    }

    // Heights, bases and needs -100000 .. 100000.
    private static void heightsOfTurns() {
        for (long height : LEVELS) {
            Edge.taken("turn of height " + height, 1, Made::empty, t -> t.turn(0, height),
                height, t -> t.read(0, 1));
        }
        for (long height : NO_LEVELS) {
            Edge.refused("turn of height " + height, ARGUMENT, Made::empty,
                t -> t.turn(0, height));
            Edge.refused("turn of height " + height, ARGUMENT, Made::tide,
                t -> t.turn(421, height));
        }
    }

    private static void heightsOfObservations() {
        for (long height : LEVELS) {
            Edge.taken("observe height " + height, 1, Made::flat, t -> t.observe(5, height),
                height, t -> t.height(5));
        }
        for (long height : NO_LEVELS) {
            Edge.refused("observe height " + height, ARGUMENT, Made::flat,
                t -> t.observe(5, height));
            Edge.refused("observe height " + height, ARGUMENT, Made::tide,
                t -> t.observe(228, height));
        }
    }

    private static void basesOfSpans() {
        Edge.asked("span, base -100000", 20000, Made::wide, t -> t.span(-100000, 0, 0, 0));
        Edge.asked("span, base -99999", 20000, Made::wide, t -> t.span(-99999, 0, 0, 0));
        Edge.asked("span, base 99999", 16, Made::wide, t -> t.span(99999, 0, 0, 0));
        Edge.asked("span, base 100000", 0, Made::wide, t -> t.span(100000, 0, 0, 0));
        for (long base : NO_LEVELS) {
            Edge.refused("span of base " + base, ARGUMENT, Made::tide,
                t -> t.span(base, 0, 100, 0));
        }
    }

    private static void basesOfPlaces() {
        for (long base : LEVELS) {
            Edge.taken("place of base " + base, 0, Made::flat, t -> t.place(0, base),
                base, t -> t.depth(0, 0));
        }
        for (long base : NO_LEVELS) {
            Edge.refused("place of base " + base, ARGUMENT, Made::empty, t -> t.place(0, base));
            Edge.refused("place of base " + base, ARGUMENT, Made::tide, t -> t.place(121, base));
        }
    }

    private static void needsOfSpans() {
        Edge.asked("span, need -100000", 0, Made::wide, t -> t.span(0, -100000, 0, 0));
        Edge.asked("span, need -99999", 16, Made::wide, t -> t.span(0, -99999, 0, 0));
        Edge.asked("span, need 99999", 20000, Made::wide, t -> t.span(0, 99999, 0, 0));
        Edge.asked("span, need 100000", 20000, Made::wide, t -> t.span(0, 100000, 0, 0));
        for (long need : NO_LEVELS) {
            Edge.refused("span of need " + need, ARGUMENT, Made::tide,
                t -> t.span(0, need, 100, 0));
        }
    }

    private static void needsOfSailings() {
        Edge.asked("sail, need -100000", 0, TermsEdgeTest::wideWithPlace,
            t -> t.sail(-100000, 1, 0, 0));
        Edge.asked("sail, need -99999", 16, TermsEdgeTest::wideWithPlace,
            t -> t.sail(-99999, 1, 0, 0));
        Edge.asked("sail, need 99999", 20000, TermsEdgeTest::wideWithPlace,
            t -> t.sail(99999, 1, 0, 0));
        Edge.asked("sail, need 100000", 20000, TermsEdgeTest::wideWithPlace,
            t -> t.sail(100000, 1, 0, 0));
        for (long need : NO_LEVELS) {
            Edge.refused("sail of need " + need, ARGUMENT, Made::tide,
                t -> t.sail(need, 100, 100, 0));
        }
    }

    // Drafts 0 .. 30000.
    private static void drafts() {
        Edge.asked("squat of 0", 0, Made::empty, t -> t.squat(1200, 0));
        Edge.asked("squat of 1", 1, Made::empty, t -> t.squat(1200, 1));
        Edge.asked("squat of 29999", 3000, Made::empty, t -> t.squat(1200, 29999));
        Edge.asked("squat of 30000", 3000, Made::empty, t -> t.squat(1200, 30000));
        for (long draft : new long[] {0, 1, 29999, 30000}) {
            Edge.asked("draft of " + draft, draft, Made::empty, t -> t.draft(draft, 1000, 1000));
        }
        for (long draft : NO_DRAFTS) {
            Edge.refused("squat of " + draft, ARGUMENT, Made::tide, t -> t.squat(1200, draft));
            Edge.refused("draft of " + draft, ARGUMENT, Made::tide,
                t -> t.draft(draft, 1000, 1000));
        }
    }

    // FLOOR rounds down. (k is 1 from second 16 on.)
    private static void floorRoundsDown() {
        heights(() -> Made.withTurns(0, 0, 20000, -1), 15, 0, 16, -1, 17, -1, 20000, -1);
        heights(() -> Made.withTurns(0, 0, 20000, 1), 15, 0, 16, 0, 19999, 0, 20000, 1);
        heights(() -> Made.withTurns(0, -1, 20000, 0), 16, -1, 19999, -1, 20000, 0);
        heights(() -> Made.withTurns(0, 1, 20000, 0), 15, 1, 16, 0, 17, 0);
        heights(() -> Made.withTurns(0, 1, 20000, -1), 16, 0, 9999, 0, 10000, 0, 10001, -1);
    }

    private static void heights(Supplier<TideDepths> made, long... due) {
        TideDepths tide = made.get();
        for (int i = 0; i + 1 < due.length; i += 2) {
            long time = due[i];
            Check.due("height(" + time + ")", due[i + 1], () -> tide.height(time));
        }
    }

    // TURNS are told with rising times.
    private static void turnsWithRisingTimes() {
        Edge.refused("second turn one ahead", ARGUMENT, Made::oneTurn, t -> t.turn(99, 0));
        Edge.refused("second turn at the first", ARGUMENT, Made::oneTurn, t -> t.turn(100, 0));
        Edge.taken("second turn one behind", 1, Made::oneTurn, t -> t.turn(101, 0),
            101, t -> t.count(4));
        Edge.refused("fifth turn one ahead", ARGUMENT, Made::tide, t -> t.turn(419, 0));
        Edge.refused("fifth turn at the fourth", ARGUMENT, Made::tide, t -> t.turn(420, 0));
        Edge.taken("fifth turn one behind", 1, Made::tide, t -> t.turn(421, 0),
            421, t -> t.count(4));
        Edge.refused("turn at the last, same height", ARGUMENT, Made::tide,
            t -> t.turn(420, 800));
        Edge.refused("turn behind second 20000", ARGUMENT, Made::wide, t -> t.turn(20001, 0));
    }

    // 40 at most.
    private static void fortyTurnsAtMost() {
        Edge.taken("39th turn", 1, () -> Made.turnsTold(38), t -> t.turn(3810, -400),
            39, t -> t.count(0));
        Edge.taken("40th turn", 1, () -> Made.turnsTold(39), t -> t.turn(3910, 800),
            40, t -> t.count(0));
        Edge.asked("40th turn that does not alternate", 0, () -> Made.turnsTold(39),
            t -> t.turn(3910, -400));
        Edge.refused("41st turn", STATE, () -> Made.turnsTold(40), t -> t.turn(4010, -400));
        Edge.refused("41st turn", STATE, Made::full, t -> t.turn(4010, -400));
        Edge.refused("41st turn that does not alternate", STATE, Made::full,
            t -> t.turn(4010, 100000));
        Edge.refused("41st turn of the last one's height", STATE, Made::full,
            t -> t.turn(4010, 739));
    }

    // Behind two of them a third one is below the second if that is above the first, ..
    private static void aThirdTurnBehindARise() {
        Edge.asked("one above", 0, TermsEdgeTest::rise, t -> t.turn(30, 9));
        Edge.asked("the same", 0, TermsEdgeTest::rise, t -> t.turn(30, 8));
        Edge.taken("one below", 1, TermsEdgeTest::rise, t -> t.turn(30, 7), 7, t -> t.read(2, 1));
        Edge.taken("the first's", 1, TermsEdgeTest::rise, t -> t.turn(30, 4), 4, t -> t.height(30));
        Edge.taken("below the first", 1, TermsEdgeTest::rise, t -> t.turn(30, 3),
            3, t -> t.count(0));
        Edge.taken("rise by one", 1, () -> Made.withTurns(0, 0, 1, 1), t -> t.turn(2, 0),
            0, t -> t.turn(3, 0));
    }

    private static TideDepths rise() {
        return Made.withTurns(10, 4, 20, 8);
    }

    // .. else above.
    private static void aThirdTurnBehindAFall() {
        Edge.asked("one below", 0, TermsEdgeTest::fall, t -> t.turn(30, 3));
        Edge.asked("the same", 0, TermsEdgeTest::fall, t -> t.turn(30, 4));
        Edge.taken("one above", 1, TermsEdgeTest::fall, t -> t.turn(30, 5), 5, t -> t.read(2, 1));
        Edge.taken("the first's", 1, TermsEdgeTest::fall, t -> t.turn(30, 8), 8, t -> t.height(30));
        Edge.taken("above the first", 1, TermsEdgeTest::fall, t -> t.turn(30, 9),
            3, t -> t.count(0));
        Edge.taken("fall by one", 1, () -> Made.withTurns(0, 0, 1, -1), t -> t.turn(2, 0),
            0, t -> t.turn(3, 0));
    }

    private static TideDepths fall() {
        return Made.withTurns(10, 8, 20, 4);
    }

    // (And no two that follow one another are of one height.)
    private static void noTwoOfOneHeight() {
        Edge.asked("second of the first's height", 0, Made::oneTurn, t -> t.turn(101, 50));
        Edge.taken("second one below", 1, Made::oneTurn, t -> t.turn(101, 49), 2, t -> t.count(0));
        Edge.taken("second one above", 1, Made::oneTurn, t -> t.turn(101, 51), 2, t -> t.count(0));
        Edge.taken("the refused one's time again", 0, Made::oneTurn, t -> t.turn(101, 50),
            1, t -> t.turn(101, 51));
        Edge.taken("a time ahead of the refused one's", 0, Made::oneTurn, t -> t.turn(20000, 50),
            1, t -> t.turn(101, 51));
    }

    // THE TABLE is from the first turn's time to the last one's ..
    private static void theTableFromFirstToLast() {
        Edge.refused("height(99)", ARGUMENT, Made::tide, t -> t.height(99));
        Edge.asked("height(100)", -200, Made::tide, t -> t.height(100));
        Edge.asked("height(101)", -200, Made::tide, t -> t.height(101));
        Edge.asked("height(102)", -198, Made::tide, t -> t.height(102));
        Edge.asked("height(419)", 699, Made::tide, t -> t.height(419));
        Edge.asked("height(420)", 700, Made::tide, t -> t.height(420));
        Edge.refused("height(421)", ARGUMENT, Made::tide, t -> t.height(421));
        Edge.taken("one more turn widens it", 1, Made::tide, t -> t.turn(421, 0),
            -100, t -> t.height(421));
    }

    // .. (there is none with less than two).
    private static void noTableWithLessThanTwo() {
        for (int turns = 0; turns < 2; turns++) {
            int told = turns;
            Supplier<TideDepths> made = () -> withPlaces(Made.turnsTold(told), 0, 0);
            String few = " with turns: " + turns;
            Edge.refused("height" + few, ARGUMENT, made, t -> t.height(10));
            Edge.refused("observe" + few, ARGUMENT, made, t -> t.observe(10, 0));
            Edge.refused("span" + few, ARGUMENT, made, t -> t.span(0, 0, 10, 0));
            Edge.refused("depth" + few, ARGUMENT, made, t -> t.depth(0, 10));
            Edge.refused("sail" + few, ARGUMENT, made, t -> t.sail(0, 1, 10, 0));
            Edge.refused("height at NONE" + few, ARGUMENT, made, t -> t.height(-1));
            Edge.asked("first second" + few, -1, made, t -> t.count(3));
            Edge.asked("last second" + few, -1, made, t -> t.count(4));
        }
        for (int turns = 2; turns <= 3; turns++) {
            int told = turns;
            Supplier<TideDepths> made = () -> withPlaces(Made.turnsTold(told), 0, 300);
            Edge.asked("height", -300, made, t -> t.height(10));
            Edge.taken("observe", 1, made, t -> t.observe(10, 0), 300, t -> t.read(100, 3));
            Edge.asked("span", 10, made, t -> t.span(300, 0, 10, 0));
            Edge.asked("depth", 0, made, t -> t.depth(0, 10));
            Edge.asked("sail", 10, made, t -> t.sail(0, 1, 10, 0));
            Edge.asked("first second", 10, made, t -> t.count(3));
            Edge.asked("last second", 100 * told - 90, made, t -> t.count(4));
        }
    }

    // THE COSINE has 65 numbers, 0 .. 64.
    private static void sixtyFiveCosines() {
        for (int i : new int[] {-1, 65, Integer.MIN_VALUE, Integer.MAX_VALUE}) {
            Edge.refused("cosine(" + i + ")", ARRAY_INDEX, Made::tide, t -> t.cosine(i));
        }
        int[] due = {0, 0, 1, 20, 31, 15580, 32, 16384, 33, 17188, 63, 32748, 64, 32768};
        for (int n = 0; n < due.length; n += 2) {
            int i = due[n];
            Edge.asked("cosine(" + i + ")", due[n + 1], Made::tide, t -> t.cosine(i));
        }
    }

    // The TABLE'S HEIGHT at a time: a turn's at its time.
    private static void aTurnsHeightAtItsTime() {
        heights(() -> Made.withTurns(7, 3, 9, -32768, 137, 32768, 138, 5, 20000, 6),
            7, 3, 8, -16383, 9, -32768, 10, -32748, 136, 32748, 137, 32768, 138, 5, 139, 5);
    }

    // Between turns: x = 64 * (t - t0), i = FLOOR(x / (t1 - t0)), k = ..
    private static void stepsBetweenTurns() {
        // A step of the cosine each two seconds: on it, and in the middle of it.
        heights(() -> Made.withTurns(100, 0, 228, 32768), 101, 10, 102, 20, 103, 49, 104, 79,
            163, 15982, 164, 16384, 165, 16786, 225, 32718, 226, 32748, 227, 32758);
        // Falling: h0 + FLOOR, so that what is not whole goes down.
        heights(() -> Made.withTurns(100, 32768, 228, 0), 101, 32758, 102, 32748, 103, 32719,
            164, 16384, 225, 50, 226, 20, 227, 10);
    }

    private static void shortAndLongStretches() {
        heights(() -> Made.withTurns(5, 0, 6, 32768), 5, 0, 6, 32768);
        heights(() -> Made.withTurns(5, 0, 7, 32768), 5, 0, 6, 16384, 7, 32768);
        heights(() -> Made.withTurns(5, 0, 8, 32768), 6, 8194, 7, 24573);
        heights(() -> Made.withTurns(5, 32768, 8, 0), 6, 24574, 7, 8195);
        heights(() -> Made.withTurns(0, 0, 63, 32768), 1, 20, 62, 32747, 63, 32768);
        heights(() -> Made.withTurns(0, 0, 64, 32768), 1, 20, 2, 79, 62, 32689, 63, 32748);
        heights(() -> Made.withTurns(0, 0, 65, 32768), 1, 19, 64, 32748, 65, 32768);
        heights(Made::wide, 15, -100000, 16, -99994, 10000, 0, 19984, 99987, 19985, 99993);
    }

    // AN OBSERVATION (16 at most, ..
    private static void sixteenObservationsAtMost() {
        Edge.taken("15th observation", 15, () -> observations(14), t -> t.observe(3000, 1),
            15, t -> t.count(1));
        Edge.taken("16th observation", 16, () -> observations(15), t -> t.observe(3200, 1),
            16, t -> t.count(1));
        Edge.refused("17th observation", STATE, () -> observations(16), t -> t.observe(3400, 1));
        Edge.refused("17th observation", STATE, Made::full, t -> t.observe(3400, 1));
        Edge.refused("17th at the 16th's time", STATE, Made::full, t -> t.observe(3200, 1));
    }

    private static TideDepths observations(int howMany) {
        return Made.observationsTold(Made.turnsTold(40), howMany);
    }

    // .. each not ahead of the one before).
    private static void eachNotAheadOfTheOneBefore() {
        Edge.refused("one ahead", ARGUMENT, Made::tide, t -> t.observe(227, 0));
        Edge.taken("at it", 3, Made::tide, t -> t.observe(228, 0), 228, t -> t.read(102, 2));
        Edge.taken("one behind", 3, Made::tide, t -> t.observe(229, 0), 229, t -> t.read(102, 2));
        Edge.refused("at the first one's", ARGUMENT, Made::tide, t -> t.observe(132, 0));
        Supplier<TideDepths> one = () -> observed(Made.flat(), 50, 9);
        Edge.refused("second, one ahead", ARGUMENT, one, t -> t.observe(49, 0));
        Edge.taken("second, at the first", 2, one, t -> t.observe(50, 0), 0, t -> t.height(50));
        Edge.taken("second, one behind", 2, one, t -> t.observe(51, 0), 9, t -> t.height(50));
        Edge.taken("the first at the table's first", 1, () -> Made.withTurns(100, 3, 200, 4),
            t -> t.observe(100, 3), 100, t -> t.read(100, 2));
        Edge.taken("at the table's last", 3, Made::tide, t -> t.observe(420, 0),
            -800, t -> t.read(102, 3));
    }

    // Its DIFFERENCE is the height less the table's height then.
    private static void theDifference() {
        Edge.taken("the same", 3, Made::tide, t -> t.observe(292, -500), 0, t -> t.read(102, 3));
        Edge.taken("one above", 3, Made::tide, t -> t.observe(292, -499), 1, t -> t.read(102, 3));
        Edge.taken("one below", 3, Made::tide, t -> t.observe(292, -501), -1, t -> t.read(102, 3));
        Edge.taken("the greatest", 1, Made::wide, t -> t.observe(0, 100000),
            200000, t -> t.read(100, 3));
        Edge.taken("the least", 1, Made::wide, t -> t.observe(20000, -100000),
            -200000, t -> t.read(100, 3));
        Edge.taken("beyond what a height can be", 1, Made::wide, t -> t.observe(16, 100000),
            199994, t -> t.read(100, 3));
    }

    // The CORRECTION at a time is that of the latest observation not behind it.
    private static void theLatestObservation() {
        heights(() -> observed(Made.flat(), 1000, 10, 1600, 100), 999, 0, 1000, 10, 1001, 10,
            1599, 10, 1600, 100, 1601, 100, 2199, 100, 2200, 50);
        // One without a difference ends the one before it.
        heights(() -> observed(Made.flat(), 1000, 10, 1100, 0), 1099, 10, 1100, 0, 1101, 0);
        heights(() -> observed(Made.flat(), 0, 9, 1, -9, 2, 8), 0, 9, 1, -9, 2, 8, 3, 8);
    }

    // (Of one time the last told.)
    private static void ofOneTimeTheLastTold() {
        heights(() -> observed(Made.flat(), 1000, 10, 1000, 20, 1000, 30),
            999, 0, 1000, 30, 1001, 30, 1600, 15);
        heights(() -> observed(Made.flat(), 1000, 10, 1000, 0), 999, 0, 1000, 0, 1001, 0);
    }

    // 0 without one.
    private static void noObservationNoCorrection() {
        heights(Made::flat, 0, 0, 600, 0, 19999, 0, 20000, 1);
        heights(() -> observed(Made.flat(), 20000, 50), 0, 0, 19999, 0, 20000, 50);
    }

    // Halved as often as 600 whole seconds have gone since.
    private static void halvedBySixHundredSeconds() {
        heights(() -> observed(Made.flat(), 50, 1000), 50, 1000, 51, 1000, 649, 1000, 650, 500,
            651, 500, 1249, 500, 1250, 250, 1251, 250, 1849, 250, 1850, 125, 1851, 125);
        // It is not the clock's 600 seconds that count, but those since the observation.
        heights(() -> observed(Made.flat(), 599, 1000), 600, 1000, 1198, 1000, 1199, 500);
    }

    // Halved towards 0.
    private static void halvedTowardsZero() {
        heights(() -> observed(Made.flat(), 0, 1), 599, 1, 600, 0, 601, 0);
        heights(() -> observed(Made.flat(), 0, -1), 599, -1, 600, 0, 601, 0);
        heights(() -> observed(Made.flat(), 0, 3), 600, 1, 1199, 1, 1200, 0);
        heights(() -> observed(Made.flat(), 0, -3), 600, -1, 1199, -1, 1200, 0);
        heights(() -> observed(Made.flat(), 0, -7), 599, -7, 600, -3, 1200, -1, 1800, 0);
        heights(() -> observed(Made.flat(), 0, -2), 600, -1, 1200, 0);
    }

    private static void halvedUntilNothingIsLeft() {
        heights(() -> observed(Made.withTurns(0, -100000, 20000, -99999), 0, 100000),
            599, 100000, 600, 0, 601, 0, 1199, 0, 1200, -50000, 10199, -99997, 10200, -99999,
            10799, -99999, 10800, -100000, 19999, -100000, 20000, -99999);
        heights(() -> observed(Made.withTurns(0, 100000, 20000, 99999), 0, -100000),
            15, -100000, 16, -100001, 599, -100001, 600, -1, 10200, 99998, 10799, 99998,
            10800, 99999, 20000, 99999);
    }

    // The HEIGHT is the table's height and the correction.
    private static void theHeight() {
        long[] corrections = {0, 0, 50, 50, 50, 50, -100, -100, -100, -100, -100};
        long[] times = {100, 131, 132, 133, 164, 227, 228, 229, 292, 419, 420};
        TideDepths table = Made.withTurns(100, -200, 164, 1000, 292, -500, 420, 800);
        for (int i = 0; i < times.length; i++) {
            long time = times[i];
            Edge.asked("height(" + time + ")", table.height(time) + corrections[i], Made::tide,
                t -> t.height(time));
        }
    }

    // Turns that are told later change no difference (the table's height at a time that it has ..).
    private static void laterTurnsChangeNoDifference() {
        TideDepths tide = Made.tide();
        tide.observe(420, 1000);
        long[] before = new long[321];
        for (int i = 0; i < before.length; i++) {
            before[i] = i % 3 == 0 || i > 300 ? tide.height(100 + i) : 0;
        }
        Check.due("turn(421, -100000)", 1, () -> tide.turn(421, -100000));
        Check.due("turn(20000, 100000)", 1, () -> tide.turn(20000, 100000));
        long[] due = {50, -100, 200};
        for (int i = 0; i < due.length; i++) {
            int observation = 100 + i;
            Check.due("difference " + i, due[i], () -> tide.read(observation, 3));
        }
        for (int i = 0; i < before.length; i += i >= 300 ? 1 : 3) {
            int time = 100 + i;
            Check.due("height(" + time + ") as before", before[i], () -> tide.height(time));
        }
        Check.due("height(421)", -99800, () -> tide.height(421));
    }

    // DEPTH of a base at a time: base + HEIGHT.
    private static void theDepth() {
        long[] bases = {5000, 4000, 6000};
        long[] heights = {100, -200, 132, 450, 164, 1050, 228, 150, 292, -600, 420, 700};
        for (int n = 0; n < heights.length; n += 2) {
            long time = heights[n];
            for (int i = 0; i < bases.length; i++) {
                int place = i;
                long due = bases[i] + heights[n + 1];
                Edge.asked("depth(" + i + ", " + time + ")", due, Made::tide,
                    t -> t.depth(place, time));
                Edge.asked("span for that depth", time, Made::tide,
                    t -> t.span(bases[place], due, time, 0));
            }
        }
    }

    // It SUFFICES for a need if it is not below it.
    private static void notBelowTheNeed() {
        Edge.asked("one above the need", 0, Made::flat, t -> t.span(8, 7, 0, 0));
        Edge.asked("the need", 0, Made::flat, t -> t.span(7, 7, 0, 0));
        Edge.asked("one below the need", 20000, Made::flat, t -> t.span(6, 7, 0, 0));
        Edge.asked("two below the need", -1, Made::flat, t -> t.span(5, 7, 0, 0));
    }

    // A SPAN is .. as long as can be (within the seconds that are looked at).
    private static void spansAsLongAsCanBe() {
        spans(999, 1000, 1099, 1000, 1099);
        spans(1000, 1000, 1099, 1000, 1099);
        spans(1001, 1001, 1099, 3000, 3099);
        spans(1098, 1098, 1099, 3000, 3099);
        spans(1099, 1099, 1099, 3000, 3099);
        spans(1100, 3000, 3099, 3000, 3099);
        spans(3099, 3099, 3099, 3099, 3099);
        spans(3100, -1, -1, -1, -1);
    }

    private static void spans(long from, long... due) {
        TideDepths tide = observed(Made.flat(), 1000, 5, 1100, 4, 3000, 5, 3100, 4);
        for (int i = 0; i < due.length; i++) {
            int side = i;
            Check.due("span(0, 5, " + from + ", " + side + ")", due[i],
                () -> tide.span(0, 5, from, side));
        }
    }

    // SQUAT: rows of speed 0, 200, 400, .. 1200 have 0, 3, 11, 24, 43, 68, 100 thousandths.
    private static void squatRows() {
        squats(0, 0, 1, 0, 199, 2, 200, 3, 201, 3, 399, 10, 400, 11, 401, 11, 599, 23, 600, 24,
            601, 24, 799, 42, 800, 43, 801, 43, 999, 67, 1000, 68, 1001, 68, 1199, 99, 1200, 100);
    }

    /** A draft of 1000 has the thousandths themselves as its squat. */
    private static void squats(long... due) {
        TideDepths tide = new TideDepths();
        for (int i = 0; i + 1 < due.length; i += 2) {
            long speed = due[i];
            Check.due("squat(" + speed + ", 1000)", due[i + 1], () -> tide.squat(speed, 1000));
        }
    }

    // Between rows FLOOR of the straight line.
    private static void squatBetweenRows() {
        squats(66, 0, 67, 1, 133, 1, 134, 2, 224, 3, 225, 4, 226, 4, 415, 11, 416, 12);
        squats(610, 24, 611, 25, 807, 43, 808, 44, 809, 44, 1006, 68, 1007, 69, 1193, 98, 1194, 99);
    }

    // Above 1200 that of 1200.
    private static void squatAboveTheLastRow() {
        squats(1199, 99, 1200, 100, 1201, 100, 1399, 100, 1400, 100, 1401, 100, 9999, 100,
            10000, 100);
    }

    // The draft times that, by 1000, rounded up.
    private static void squatRoundedUp() {
        long[] due = {1200, 9, 1, 1200, 10, 1, 1200, 11, 2, 1200, 0, 0, 1200, 1, 1,
            200, 333, 1, 200, 334, 2, 200, 999, 3, 200, 1000, 3, 200, 1001, 4,
            0, 30000, 0, 66, 30000, 0, 67, 30000, 30, 67, 1, 1};
        TideDepths tide = new TideDepths();
        for (int i = 0; i < due.length; i += 3) {
            long speed = due[i];
            long draft = due[i + 1];
            Check.due("squat(" + speed + ", " + draft + ")", due[i + 2],
                () -> tide.squat(speed, draft));
        }
    }

    // PASSING a way with a speed takes 100 * way / speed seconds, rounded up.
    private static void passingRoundedUp() {
        long[] due = {1, 99, 2, 1, 100, 1, 1, 101, 1, 99, 10000, 1, 100, 10000, 1, 101, 10000, 2,
            100, 9999, 2, 7, 700, 1, 0, 1, 0, 0, 10000, 0, 1, 1, 100, 3, 7, 43};
        TideDepths tide = new TideDepths();
        for (int i = 0; i < due.length; i += 3) {
            long way = due[i];
            long speed = due[i + 1];
            Check.due("passing(" + way + ", " + speed + ")", due[i + 2],
                () -> tide.passing(way, speed));
        }
    }

    // Speed 0 is divided by, so the machine throws.
    private static void passingWithSpeedNought() {
        for (long way : new long[] {0, 1, 1000000}) {
            Edge.refused("passing(" + way + ", 0)", ARITHMETIC, Made::tide, t -> t.passing(way, 0));
        }
        Edge.refused("passing(1, -1)", ARGUMENT, Made::tide, t -> t.passing(1, -1));
        Edge.asked("passing(1, 1)", 100, Made::tide, t -> t.passing(1, 1));
        Edge.refused("sail with speed 0", ARITHMETIC, Made::tide, t -> t.sail(0, 0, 100, 0));
        Edge.refused("sail with speed -1", ARGUMENT, Made::tide, t -> t.sail(0, -1, 100, 0));
        Edge.asked("sail with speed 1", -1, Made::tide, t -> t.sail(0, 1, 100, 0));
        // No way is passed at once, but it is divided all the same.
        Edge.refused("sail nowhere with speed 0", ARITHMETIC, TermsEdgeTest::wideWithPlace,
            t -> t.sail(0, 0, 0, 0));
        Edge.asked("sail nowhere with speed 1", 10000, TermsEdgeTest::wideWithPlace,
            t -> t.sail(0, 1, 0, 0));
    }

    // PLACES .. (12 at most).
    private static void twelvePlacesAtMost() {
        Edge.taken("11th place", 10, () -> places(10), t -> t.place(100, 7), 11, t -> t.count(2));
        Edge.taken("12th place", 11, () -> places(11), t -> t.place(110, 7), 12, t -> t.count(2));
        Edge.refused("13th place", STATE, () -> places(12), t -> t.place(111, 7));
        Edge.refused("13th place", STATE, Made::full, t -> t.place(111, 7));
        Edge.refused("13th place", STATE, Made::full, t -> t.place(1000000, 7));
    }

    private static TideDepths places(int howMany) {
        return Made.placesTold(Made.flat(), howMany);
    }

    // Ways rise.
    private static void waysRise() {
        Edge.refused("one below", ARGUMENT, Made::tide, t -> t.place(119, 0));
        Edge.refused("the same", ARGUMENT, Made::tide, t -> t.place(120, 0));
        Edge.taken("one above", 3, Made::tide, t -> t.place(121, 0), 4, t -> t.count(2));
        Edge.refused("the same of way 0", ARGUMENT, () -> places(1), t -> t.place(0, 0));
        Edge.taken("one above way 0", 1, () -> places(1), t -> t.place(1, 0), 2, t -> t.count(2));
        Edge.refused("the same of way 1000000", ARGUMENT,
            () -> withPlaces(Made.flat(), 1000000, 0), t -> t.place(1000000, 0));
    }

    // Each place is passed at that second and PASSING of its way: that must be in the table.
    private static void passedWithinTheTable() {
        Supplier<TideDepths> made = () -> withPlaces(Made.withTurns(100, 0, 200, 10), 0, 0, 100, 0);
        sails(made, 0, 100, 100, 100, 100);
        sails(made, 0, 100, 101, -1, -1);
        sails(made, 0, 99, 100, -1, -1);
        sails(made, 0, 101, 100, 100, 100);
        sails(made, 0, 102, 100, 100, 101);
        sails(made, 0, 10000, 198, 198, 199);
        sails(made, 0, 10000, 199, 199, 199);
        sails(made, 0, 10000, 200, -1, -1);
        // The farthest way at the slowest speed is passed long behind any table.
        sails(() -> withPlaces(Made.flat(), 1000000, 100000), 0, 1, 0, -1, -1);
        sails(() -> withPlaces(Made.flat(), 1000000, 100000), 0, 10000, 0, 0, 10000);
        sails(() -> withPlaces(Made.flat(), 200, 100000), 0, 1, 0, 0, 0);
        sails(() -> withPlaces(Made.flat(), 200, 100000), 0, 1, 1, -1, -1);
        sails(() -> withPlaces(Made.flat(), 201, 100000), 0, 1, 0, -1, -1);
    }

    private static void sails(Supplier<TideDepths> made, long need, long speed,
            long from, long... due) {
        TideDepths tide = made.get();
        for (int i = 0; i < due.length; i++) {
            int side = i;
            Check.due("sail(" + need + ", " + speed + ", " + from + ", " + side + ")", due[i],
                () -> tide.sail(need, speed, from, side));
        }
    }

    // And the depth there must suffice for need + SQUAT of the speed and the need (as a draft).
    private static void sufficesWithSquat() {
        // 1000 + 100 thousandths of it.
        sails(() -> withPlaces(Made.flat(), 0, 1101), 1000, 1200, 0, 0, 20000);
        sails(() -> withPlaces(Made.flat(), 0, 1100), 1000, 1200, 0, 0, 20000);
        sails(() -> withPlaces(Made.flat(), 0, 1099), 1000, 1200, 0, 20000, 20000);
        sails(() -> withPlaces(Made.flat(), 0, 1098), 1000, 1200, 0, -1, -1);
        sails(() -> withPlaces(Made.flat(), 0, 1099), 1000, 1199, 0, 0, 20000);
        sails(() -> withPlaces(Made.flat(), 0, 1100), 1000, 1201, 0, 0, 20000);
        sails(() -> withPlaces(Made.flat(), 0, 1100), 1000, 10000, 0, 0, 20000);
        // One place that lacks is enough, wherever on the way it is.
        sails(() -> withPlaces(Made.flat(), 0, 1098, 1, 1100), 1000, 1200, 0, -1, -1);
        sails(() -> withPlaces(Made.flat(), 0, 1100, 1, 1098), 1000, 1200, 0, -1, -1);
        // The need is as a draft, also where no draft could be so great.
        sails(() -> withPlaces(Made.flat(), 0, 33000), 30000, 1200, 0, 0, 20000);
        sails(() -> withPlaces(Made.flat(), 0, 32998), 30000, 1200, 0, -1, -1);
        sails(() -> withPlaces(Made.flat(), 0, 33002), 30001, 1200, 0, 0, 20000);
        sails(() -> withPlaces(Made.flat(), 0, 33000), 30001, 1200, 0, -1, -1);
    }

    // (Of a need below 0 no squat.)
    private static void ofANeedBelowNoughtNoSquat() {
        sails(() -> withPlaces(Made.flat(), 0, -1), -1, 1200, 0, 0, 20000);
        sails(() -> withPlaces(Made.flat(), 0, -2), -1, 1200, 0, 20000, 20000);
        sails(() -> withPlaces(Made.flat(), 0, 0), 0, 1200, 0, 0, 20000);
        sails(() -> withPlaces(Made.flat(), 0, -1), 0, 1200, 0, 20000, 20000);
        sails(() -> withPlaces(Made.flat(), 0, 2), 1, 1200, 0, 0, 20000);
        sails(() -> withPlaces(Made.flat(), 0, 1), 1, 1200, 0, 20000, 20000);
        sails(() -> withPlaces(Made.flat(), 0, -1000), -1000, 1200, 0, 0, 20000);
        sails(() -> withPlaces(Made.flat(), 0, -1001), -1000, 1200, 0, 20000, 20000);
        sails(() -> withPlaces(Made.flat(), 0, -100000), -99998, 10000, 0, -1, -1);
    }

    // Of several exceptions the one told first is thrown.
    private static void theExceptionToldFirst() {
        Edge.refused("turn 41, no time", ARGUMENT, Made::full, t -> t.turn(20001, 0));
        Edge.refused("turn 41, no height", ARGUMENT, Made::full, t -> t.turn(4010, 100001));
        Edge.refused("turn 41, not behind", ARGUMENT, Made::full, t -> t.turn(3910, 0));
        Edge.refused("observation 17, outside", ARGUMENT, Made::full, t -> t.observe(3911, 0));
        Edge.refused("observation 17, ahead", ARGUMENT, Made::full, t -> t.observe(3199, 0));
        Edge.refused("observation 17, no height", ARGUMENT, Made::full,
            t -> t.observe(3200, -100001));
        Edge.refused("no way, speed 0", ARGUMENT, Made::tide, t -> t.passing(-1, 0));
        Edge.refused("no way above, speed 0", ARGUMENT, Made::tide, t -> t.passing(1000001, 0));
        Edge.refused("place 13, no way", ARGUMENT, Made::full, t -> t.place(1000001, 0));
        Edge.refused("place 13, not above", ARGUMENT, Made::full, t -> t.place(110, 0));
        Edge.refused("place 13, no base", ARGUMENT, Made::full, t -> t.place(111, 100001));
        Edge.refused("no place, outside", INDEX, Made::tide, t -> t.depth(3, 421));
        Edge.refused("no place, no table", INDEX, Made::empty, t -> t.depth(0, 0));
        Edge.refused("sail, none of all", ARGUMENT, Made::empty, t -> t.sail(0, 0, 0, 0));
        Edge.refused("sail, no places, no need", ARGUMENT, Made::wide,
            t -> t.sail(100001, 0, 0, 0));
        Edge.refused("sail, no places, no speed", ARGUMENT, Made::wide,
            t -> t.sail(0, 10001, 0, 0));
        Edge.refused("sail, no places, no side", ARGUMENT, Made::wide, t -> t.sail(0, 0, 0, 2));
        Edge.refused("sail, no places, speed 0", STATE, Made::wide, t -> t.sail(0, 0, 0, 0));
        Edge.refused("sail, speed 0, no need", ARGUMENT, Made::tide,
            t -> t.sail(-100001, 0, 100, 0));
        Edge.refused("sail, speed 0, outside", ARGUMENT, Made::tide, t -> t.sail(0, 0, 99, 0));
        Edge.refused("sail, speed 0, no side", ARGUMENT, Made::tide, t -> t.sail(0, 0, 100, -1));
    }

    // What throws changes nothing: each call that can throw, on an object that holds something.
    private static void whatThrowsChangesNothing() {
        List<Supplier<TideDepths>> holding = List.of(Made::tide, Made::full);
        for (Supplier<TideDepths> made : holding) {
            Edge.refused("turn", ARGUMENT, made, t -> t.turn(100, 1));
            Edge.refused("height", ARGUMENT, made, t -> t.height(9));
            Edge.refused("observe", ARGUMENT, made, t -> t.observe(9, 1));
            Edge.refused("span", ARGUMENT, made, t -> t.span(0, 0, 9, 0));
            Edge.refused("squat", ARGUMENT, made, t -> t.squat(10001, 0));
            Edge.refused("passing", ARGUMENT, made, t -> t.passing(0, 10001));
            Edge.refused("passing, 0", ARITHMETIC, made, t -> t.passing(0, 0));
            Edge.refused("cosine", ARRAY_INDEX, made, t -> t.cosine(65));
            Edge.refused("draft", ARGUMENT, made, t -> t.draft(0, 899, 900));
            Edge.refused("place", ARGUMENT, made, t -> t.place(0, 0));
            Edge.refused("depth, no place", INDEX, made, t -> t.depth(12, 100));
            Edge.refused("depth, outside", ARGUMENT, made, t -> t.depth(0, 9));
            Edge.refused("sail", ARGUMENT, made, t -> t.sail(0, 1, 9, 0));
            Edge.refused("sail, 0", ARITHMETIC, made, t -> t.sail(0, 0, 100, 0));
            Edge.refused("read", INDEX, made, t -> t.read(40, 0));
        }
    }

    private static void whatIsAskedChangesNothing() {
        Edge.asked("height", 1050, Made::tide, t -> t.height(164));
        Edge.asked("span", 227, Made::tide, t -> t.span(0, 300, 100, 3));
        Edge.asked("squat", 300, Made::tide, t -> t.squat(1200, 3000));
        Edge.asked("passing", 12, Made::tide, t -> t.passing(120, 1000));
        Edge.asked("cosine", 79, Made::tide, t -> t.cosine(2));
        Edge.asked("draft", 2050, Made::tide, t -> t.draft(2000, 1025, 1000));
        Edge.asked("depth", 4700, Made::tide, t -> t.depth(1, 420));
        Edge.asked("sail", 300, Made::tide, t -> t.sail(0, 100, 100, 1));
        Edge.asked("read", 1000, Made::tide, t -> t.read(1, 1));
        Edge.asked("count", 3, Made::tide, t -> t.count(2));
    }

    // The constants: NONE = -1: None.
    private static void noneIsOneBelowNought() {
        Check.due("NONE", -1, () -> TideDepths.NONE);
        Edge.asked("no span", TideDepths.NONE, Made::tide, t -> t.span(0, 100000, 100, 0));
        Edge.asked("no sailing", TideDepths.NONE, Made::tide, t -> t.sail(100000, 1, 100, 0));
        Edge.asked("no table", TideDepths.NONE, Made::oneTurn, t -> t.count(3));
        Edge.asked("no such count", TideDepths.NONE, Made::oneTurn, t -> t.count(5));
    }
}
