/** Every promise by hand: ordinary inputs, the edges that the document names, wrong inputs. */
public final class PromiseTest {
    private static final Class<IllegalArgumentException> ARGUMENT = IllegalArgumentException.class;
    private static final Class<IllegalStateException> STATE = IllegalStateException.class;
    private static final Class<ArithmeticException> ARITHMETIC = ArithmeticException.class;
    private static final Class<IndexOutOfBoundsException> INDEX = IndexOutOfBoundsException.class;
    private static final Class<ArrayIndexOutOfBoundsException> ARRAY_INDEX =
        ArrayIndexOutOfBoundsException.class;

    private static final long[] FAR = {Long.MIN_VALUE, Long.MAX_VALUE};
    private static final int[] FAR_INTS = {Integer.MIN_VALUE, Integer.MAX_VALUE};

    public static void main(String[] args) {
        aNewObject();
        turn();
        fortyTurns();
        height();
        heightRoundsDown();
        observe();
        correctionsFade();
        sixteenObservations();
        laterTurnsChangeNoDifference();
        span();
        spanOnATide();
        spanOfWrongInputs();
        squat();
        passing();
        cosine();
        draft();
        place();
        depth();
        sail();
        sailWithinTheTable();
        sailWithSquat();
        sailThrowsTheFirstTold();
        read();
        count();
        Check.end();
    }

    private static TideDepths withTurns(long... timesAndHeights) {
        TideDepths tide = new TideDepths();
        for (int i = 0; i + 1 < timesAndHeights.length; i += 2) {
            long time = timesAndHeights[i];
            long height = timesAndHeights[i + 1];
            Check.due("turn(" + time + ", " + height + ")", 1, () -> tide.turn(time, height));
        }
        return tide;
    }

    /** Of height 0 but for the last second, so that corrections stand alone. */
    private static TideDepths flat() {
        return withTurns(0, 0, 20000, 1);
    }

    private static void counts(TideDepths tide, long... want) {
        for (int i = 0; i < want.length; i++) {
            int what = i;
            Check.due("count(" + what + ")", want[i], () -> tide.count(what));
        }
    }

    private static void aNewObject() {
        TideDepths tide = new TideDepths();
        counts(tide, 0, 0, 0, -1, -1);
        Check.throwing("new: height(0)", ARGUMENT, () -> tide.height(0));
        Check.throwing("new: observe(0, 0)", ARGUMENT, () -> tide.observe(0, 0));
        Check.throwing("new: span(0, 0, 0, 0)", ARGUMENT, () -> tide.span(0, 0, 0, 0));
        Check.throwing("new: depth(0, 0)", INDEX, () -> tide.depth(0, 0));
        Check.throwing("new: read(0, 0)", INDEX, () -> tide.read(0, 0));
        Check.throwing("new: read(100, 2)", INDEX, () -> tide.read(100, 2));
        tide.turn(1, 1);
        tide.turn(2, 2);
        tide.observe(1, 1);
        tide.place(1, 1);
        counts(new TideDepths(), 0, 0, 0, -1, -1);
        counts(tide, 2, 1, 1, 1, 2);
    }

    private static void turn() {
        TideDepths tide = new TideDepths();
        for (long far : new long[] {-1, 20001, FAR[0], FAR[1]}) {
            Check.throwing("turn at " + far, ARGUMENT, () -> tide.turn(far, 0));
        }
        for (long far : new long[] {-100001, 100001, FAR[0], FAR[1]}) {
            Check.throwing("turn of height " + far, ARGUMENT, () -> tide.turn(0, far));
        }
        counts(tide, 0);
        Check.due("first turn, any height", 1, () -> tide.turn(0, -100000));
        Check.throwing("turn at the last one's time", ARGUMENT, () -> tide.turn(0, 5));
        Check.due("second of one height", 0, () -> tide.turn(1, -100000));
        counts(tide, 1, 0, 0, -1, -1);
        Check.due("the time of a refused one is free", 1, () -> tide.turn(1, 100000));
        Check.due("third of the second's height", 0, () -> tide.turn(2, 100000));
        Check.due("third below the second", 1, () -> tide.turn(2, 99999));
        Check.throwing("turn ahead of the last one", ARGUMENT, () -> tide.turn(1, 100000));
        Check.due("fourth below the third", 0, () -> tide.turn(20000, 99998));
        Check.due("fourth of the third's height", 0, () -> tide.turn(20000, 99999));
        Check.due("fourth above the third", 1, () -> tide.turn(20000, 100000));
        Check.throwing("turn behind all times", ARGUMENT, () -> tide.turn(20001, 0));
        counts(tide, 4, 0, 0, 0, 20000);

        TideDepths falling = withTurns(10, 5, 20, 4);
        Check.due("third above, behind a fall: below", 0, () -> falling.turn(30, 3));
        Check.due("third above, behind a fall: same", 0, () -> falling.turn(30, 4));
        Check.due("third above, behind a fall: above", 1, () -> falling.turn(30, 5));
    }

    private static void fortyTurns() {
        TideDepths tide = new TideDepths();
        for (int i = 0; i < 40; i++) {
            int at = i;
            Check.due("turn " + i, 1, () -> tide.turn(10L * at, at % 2));
        }
        Check.throwing("41st turn", STATE, () -> tide.turn(400, 0));
        Check.throwing("41st turn that does not alternate", STATE, () -> tide.turn(400, 1));
        Check.throwing("41st turn, not behind", ARGUMENT, () -> tide.turn(390, 0));
        Check.throwing("41st turn, no such time", ARGUMENT, () -> tide.turn(20001, 0));
        Check.throwing("41st turn, no such height", ARGUMENT, () -> tide.turn(400, 100001));
        counts(tide, 40, 0, 0, 0, 390);
        Check.due("height at the 40th", 1, () -> tide.height(390));
        Check.due("last span", 390, () -> tide.span(0, 1, 371, 0));
    }

    private static void height() {
        TideDepths one = withTurns(5, 7);
        Check.throwing("height with one turn", ARGUMENT, () -> one.height(5));
        TideDepths tide = withTurns(100, 0, 228, 32768, 292, 0);
        heights(tide, 100, 0, 101, 10, 102, 20, 103, 49, 104, 79, 164, 16384, 227, 32758);
        heights(tide, 228, 32768, 229, 32748, 260, 16384, 291, 20, 292, 0);
        for (long outside : new long[] {99, 293, -1, FAR[0], FAR[1]}) {
            Check.throwing("height(" + outside + ")", ARGUMENT, () -> tide.height(outside));
        }
        TideDepths wide = withTurns(0, -100000, 20000, 100000);
        heights(wide, 0, -100000, 10000, 0, 19999, 99993, 20000, 100000);
    }

    private static void heights(TideDepths tide, long... timesAndHeights) {
        for (int i = 0; i < timesAndHeights.length; i += 2) {
            long time = timesAndHeights[i];
            Check.due("height(" + time + ")", timesAndHeights[i + 1], () -> tide.height(time));
        }
    }

    private static void heightRoundsDown() {
        heights(withTurns(0, 0, 64, 1), 1, 0, 63, 0, 64, 1);
        heights(withTurns(0, 0, 64, -1), 0, 0, 1, -1, 63, -1, 64, -1);
        heights(withTurns(0, 3, 3, -4), 1, 1, 2, -3);
    }

    private static void observe() {
        TideDepths tide = withTurns(100, 0, 300, 1000, 500, 0);
        for (long outside : new long[] {99, 501, -1, FAR[0], FAR[1]}) {
            Check.throwing("observe at " + outside, ARGUMENT, () -> tide.observe(outside, 0));
        }
        for (long far : new long[] {-100001, 100001, FAR[0], FAR[1]}) {
            Check.throwing("observe height " + far, ARGUMENT, () -> tide.observe(300, far));
        }
        counts(tide, 3, 0);
        Check.due("observe(200, 700)", 1, () -> tide.observe(200, 700));
        Check.due("difference", 200, () -> tide.read(100, 3));
        heights(tide, 199, 492, 200, 700, 300, 1200, 500, 200);
        Check.throwing("observe ahead of it", ARGUMENT, () -> tide.observe(199, 700));
        Check.due("observe at the same time", 2, () -> tide.observe(200, 400));
        Check.due("difference is to the table", -100, () -> tide.read(101, 3));
        heights(tide, 199, 492, 200, 400, 300, 900);
        Check.due("observe at the end", 3, () -> tide.observe(500, 100000));
        Check.due("difference at the end", 100000, () -> tide.read(102, 3));
        Check.throwing("observe ahead of the end", ARGUMENT, () -> tide.observe(499, 0));
        heights(tide, 499, -100, 500, 100000);
        counts(tide, 3, 3, 0, 100, 500);

        TideDepths extreme = withTurns(0, 100000, 9, -100000);
        Check.due("observe the least height", 1, () -> extreme.observe(0, -100000));
        Check.due("the greatest fall", -200000, () -> extreme.read(100, 3));
        heights(extreme, 0, -100000, 9, -300000);
    }

    private static void correctionsFade() {
        TideDepths below = flat();
        below.observe(50, -7);
        heights(below, 49, 0, 50, -7, 649, -7, 650, -3, 1249, -3, 1250, -1, 1849, -1, 1850, 0);
        heights(below, 19999, 0, 20000, 1);
        TideDepths above = flat();
        above.observe(0, 7);
        heights(above, 0, 7, 599, 7, 600, 3, 1199, 3, 1200, 1, 1800, 0);
        above.observe(1300, 1);
        heights(above, 1299, 1, 1300, 1, 1899, 1, 1900, 0);
        TideDepths great = flat();
        great.observe(0, 100000);
        heights(great, 9600, 1, 10199, 1, 10200, 0, 19999, 0);
    }

    private static void sixteenObservations() {
        TideDepths tide = flat();
        for (int i = 1; i <= 16; i++) {
            int told = i;
            Check.due("observation " + i, i, () -> tide.observe(7, told));
        }
        Check.throwing("17th observation", STATE, () -> tide.observe(7, 0));
        Check.throwing("17th, ahead", ARGUMENT, () -> tide.observe(6, 0));
        Check.throwing("17th, outside", ARGUMENT, () -> tide.observe(20001, 0));
        Check.throwing("17th, no such height", ARGUMENT, () -> tide.observe(7, 100001));
        Check.due("of one time the last told", 16, () -> tide.height(7));
        counts(tide, 2, 16);
    }

    private static void laterTurnsChangeNoDifference() {
        TideDepths tide = withTurns(0, 0, 64, 1000);
        tide.observe(32, 600);
        Check.throwing("height behind the end", ARGUMENT, () -> tide.height(65));
        tide.turn(128, 0);
        Check.due("difference", 100, () -> tide.read(100, 3));
        heights(tide, 32, 600, 64, 1100, 96, 600, 128, 100);
    }

    private static void span() {
        TideDepths tide = flat();
        tide.observe(1000, 10);
        tide.observe(5000, 10);
        spans(tide, 0, 5, 0, 1000, 2199, 1000, 2199);
        spans(tide, 0, 5, 1000, 1000, 2199, 1000, 2199);
        spans(tide, 0, 5, 1001, 1001, 2199, 5000, 6199);
        spans(tide, 0, 5, 2199, 2199, 2199, 5000, 6199);
        spans(tide, 0, 5, 2200, 5000, 6199, 5000, 6199);
        spans(tide, 0, 5, 6199, 6199, 6199, 6199, 6199);
        spans(tide, 0, 5, 6200, -1, -1, -1, -1);
        spans(tide, 7, 12, 0, 1000, 2199, 1000, 2199);
        spans(tide, -100000, -99990, 0, 1000, 1599, 1000, 1599);
        spans(tide, 0, 11, 0, -1, -1, -1, -1);
        spans(tide, 0, 1, 7400, 20000, 20000, 20000, 20000);
        spans(tide, 0, 0, 0, 0, 20000, 0, 20000);
        spans(tide, 100000, -100000, 20000, 20000, 20000, 20000, 20000);
        spans(tide, -100000, 100000, 0, -1, -1, -1, -1);

        TideDepths seconds = flat();
        seconds.observe(1000, 10);
        seconds.observe(1300, -10);
        seconds.observe(1301, 10);
        seconds.observe(1900, -10);
        seconds.observe(1901, 4);
        spans(seconds, 0, 5, 0, 1000, 1299, 1301, 1899);
        spans(seconds, 0, -9, 0, 0, 1299, 1901, 20000);
        spans(seconds, 0, 2, 1900, 1901, 3100, 1901, 3100);
    }

    private static void spans(TideDepths tide, long base, long need, long from, long... want) {
        for (int i = 0; i < want.length; i++) {
            int side = i;
            Check.due("span(" + base + ", " + need + ", " + from + ", " + side + ")", want[i],
                () -> tide.span(base, need, from, side));
        }
    }

    private static void spanOnATide() {
        TideDepths tide = withTurns(0, 0, 64, 32768, 192, 0, 320, 32768, 384, 16384);
        spans(tide, 0, 16384, 0, 32, 128, 256, 384);
        spans(tide, 0, 32768, 0, 64, 64, 64, 64);
        spans(tide, 0, 32768, 65, 320, 320, 320, 320);
        spans(tide, 0, 20, 0, 1, 190, 194, 384);
        spans(tide, 0, 21, 0, 2, 189, 195, 384);
        spans(tide, 0, 0, 100, 100, 384, 100, 384);
    }

    private static void spanOfWrongInputs() {
        TideDepths tide = withTurns(100, 0, 200, 10);
        for (long far : new long[] {-100001, 100001, FAR[0], FAR[1]}) {
            Check.throwing("span of base " + far, ARGUMENT, () -> tide.span(far, 0, 100, 0));
            Check.throwing("span of need " + far, ARGUMENT, () -> tide.span(0, far, 100, 0));
        }
        for (long far : new long[] {99, 201, FAR[0], FAR[1]}) {
            Check.throwing("span from " + far, ARGUMENT, () -> tide.span(0, 0, far, 0));
        }
        for (int far : new int[] {-1, 4, FAR_INTS[0], FAR_INTS[1]}) {
            Check.throwing("span of side " + far, ARGUMENT, () -> tide.span(0, 0, 100, far));
        }
        TideDepths one = withTurns(0, 0);
        Check.throwing("span with one turn", ARGUMENT, () -> one.span(0, 0, 0, 0));
    }

    private static void squat() {
        TideDepths tide = new TideDepths();
        long[] due = {
            0, 30000, 0, 66, 30000, 0, 67, 30000, 30, 199, 30000, 60, 200, 30000, 90,
            224, 30000, 90, 225, 30000, 120, 400, 30000, 330, 600, 30000, 720, 800, 30000, 1290,
            1000, 30000, 2040, 1199, 30000, 2970, 1200, 30000, 3000, 1201, 30000, 3000,
            10000, 30000, 3000, 10000, 0, 0, 200, 1, 1, 200, 333, 1, 200, 334, 2, 1200, 10, 1,
            1200, 11, 2, 0, 1, 0};
        for (int i = 0; i < due.length; i += 3) {
            long speed = due[i];
            long draft = due[i + 1];
            Check.due("squat(" + speed + ", " + draft + ")", due[i + 2],
                () -> tide.squat(speed, draft));
        }
        for (long far : new long[] {-1, 10001, FAR[0], FAR[1]}) {
            Check.throwing("squat at " + far, ARGUMENT, () -> tide.squat(far, 1));
        }
        for (long far : new long[] {-1, 30001, FAR[0], FAR[1]}) {
            Check.throwing("squat of draft " + far, ARGUMENT, () -> tide.squat(1, far));
        }
    }

    private static void passing() {
        TideDepths tide = new TideDepths();
        Check.due("passing(0, 1)", 0, () -> tide.passing(0, 1));
        Check.due("passing(1, 10000)", 1, () -> tide.passing(1, 10000));
        Check.due("passing(100, 10000)", 1, () -> tide.passing(100, 10000));
        Check.due("passing(101, 10000)", 2, () -> tide.passing(101, 10000));
        Check.due("passing(1, 3)", 34, () -> tide.passing(1, 3));
        Check.due("passing(1000000, 1)", 100000000, () -> tide.passing(1000000, 1));
        for (long far : new long[] {-1, 1000001, FAR[0], FAR[1]}) {
            Check.throwing("passing way " + far, ARGUMENT, () -> tide.passing(far, 1));
            Check.throwing("passing way " + far + ", 0", ARGUMENT, () -> tide.passing(far, 0));
        }
        for (long far : new long[] {-1, 10001, FAR[0], FAR[1]}) {
            Check.throwing("passing with " + far, ARGUMENT, () -> tide.passing(1, far));
        }
        Check.throwing("passing(0, 0)", ARITHMETIC, () -> tide.passing(0, 0));
        Check.throwing("passing(1000000, 0)", ARITHMETIC, () -> tide.passing(1000000, 0));
    }

    private static void cosine() {
        TideDepths tide = new TideDepths();
        for (int i = 0; i <= 64; i++) {
            int at = i;
            Check.due("cosine(" + i + ")", PlainTide.COSINE[i], () -> tide.cosine(at));
        }
        for (int far : new int[] {-1, 65, FAR_INTS[0], FAR_INTS[1]}) {
            Check.throwing("cosine(" + far + ")", ARRAY_INDEX, () -> tide.cosine(far));
            Check.due("cosine(" + far + ") of the machine", 0, () -> ofTheMachine(tide, far));
        }
    }

    /** The machine's own exceptions tell the index; those of the class are a written text. */
    private static int ofTheMachine(TideDepths tide, int i) {
        try {
            tide.cosine(i);
        } catch (ArrayIndexOutOfBoundsException e) {
            return e.getMessage().contains(String.valueOf(i)) ? 1 : 0;
        }
        return 1;
    }

    private static void draft() {
        TideDepths tide = new TideDepths();
        Check.due("draft(0, 1100, 900)", 0, () -> tide.draft(0, 1100, 900));
        Check.due("draft(1, 900, 1100)", 1, () -> tide.draft(1, 900, 1100));
        Check.due("draft(30000, 1100, 900)", 36667, () -> tide.draft(30000, 1100, 900));
        Check.due("draft(11, 900, 1100)", 9, () -> tide.draft(11, 900, 1100));
        Check.due("draft(12, 900, 1100)", 10, () -> tide.draft(12, 900, 1100));
        Check.due("draft(777, 1025, 1025)", 777, () -> tide.draft(777, 1025, 1025));
        for (long far : new long[] {-1, 30001, FAR[0], FAR[1]}) {
            Check.throwing("draft " + far, ARGUMENT, () -> tide.draft(far, 1000, 1000));
        }
        for (long far : new long[] {0, 899, 1101, FAR[0], FAR[1]}) {
            Check.throwing("draft from " + far, ARGUMENT, () -> tide.draft(1, far, 1000));
            Check.throwing("draft into " + far, ARGUMENT, () -> tide.draft(1, 1000, far));
        }
    }

    private static void place() {
        TideDepths tide = new TideDepths();
        for (long far : new long[] {-1, 1000001, FAR[0], FAR[1]}) {
            Check.throwing("place at " + far, ARGUMENT, () -> tide.place(far, 0));
        }
        for (long far : new long[] {-100001, 100001, FAR[0], FAR[1]}) {
            Check.throwing("place of base " + far, ARGUMENT, () -> tide.place(0, far));
        }
        Check.due("place(0, -100000)", 0, () -> tide.place(0, -100000));
        Check.throwing("place at the last one's way", ARGUMENT, () -> tide.place(0, 0));
        Check.due("place(1, 100000)", 1, () -> tide.place(1, 100000));
        Check.throwing("place below the last one's way", ARGUMENT, () -> tide.place(0, 0));
        counts(tide, 0, 0, 2);
        for (int i = 2; i < 11; i++) {
            int at = i;
            Check.due("place " + i, i, () -> tide.place(at, 0));
        }
        Check.due("place 11", 11, () -> tide.place(999999, 0));
        Check.throwing("13th place", STATE, () -> tide.place(1000000, 0));
        Check.throwing("13th, not above", ARGUMENT, () -> tide.place(999999, 0));
        Check.throwing("13th, no such way", ARGUMENT, () -> tide.place(1000001, 0));
        Check.throwing("13th, no such base", ARGUMENT, () -> tide.place(1000000, 100001));
        counts(tide, 0, 0, 12);
        TideDepths far = new TideDepths();
        Check.due("place(1000000, 0)", 0, () -> far.place(1000000, 0));
    }

    private static void depth() {
        TideDepths tide = withTurns(100, 0, 164, 1000);
        tide.place(0, -5000);
        tide.place(1, 3000);
        tide.observe(132, 600);
        Check.due("depth(0, 100)", -5000, () -> tide.depth(0, 100));
        Check.due("depth(1, 100)", 3000, () -> tide.depth(1, 100));
        Check.due("depth(1, 132)", 3600, () -> tide.depth(1, 132));
        Check.due("depth(0, 164)", -3900, () -> tide.depth(0, 164));
        for (int far : new int[] {-1, 2, FAR_INTS[0], FAR_INTS[1]}) {
            Check.throwing("depth at place " + far, INDEX, () -> tide.depth(far, 100));
            Check.throwing("depth at place " + far + ", 0", INDEX, () -> tide.depth(far, 0));
        }
        for (long far : new long[] {99, 165, FAR[0], FAR[1]}) {
            Check.throwing("depth at time " + far, ARGUMENT, () -> tide.depth(0, far));
        }
    }

    private static void sails(TideDepths tide, long need, long speed, long from, long... want) {
        for (int i = 0; i < want.length; i++) {
            int side = i;
            Check.due("sail(" + need + ", " + speed + ", " + from + ", " + side + ")", want[i],
                () -> tide.sail(need, speed, from, side));
        }
    }

    private static void sail() {
        TideDepths tide = flat();
        tide.observe(1000, 10);
        tide.observe(5000, 10);
        tide.place(0, 0);
        tide.place(10, -5);
        // At 100 cm/s the second place is passed 10 s later; from need 1 on the squat is 1 mm.
        sails(tide, 0, 100, 0, 990, 2189);
        sails(tide, 0, 100, 2190, 4990, 6189);
        sails(tide, 0, 100, 2000, 2000, 2189);
        sails(tide, 0, 100, 2189, 2189, 2189);
        sails(tide, 0, 100, 6190, -1, -1);
        sails(tide, 4, 100, 0, 1000, 1589);
        sails(tide, 4, 100, 1590, 5000, 5589);
        sails(tide, 5, 100, 0, -1, -1);
        sails(tide, -5, 100, 0, 0, 19990);
        sails(tide, -5, 1000, 0, 0, 19999);
        sails(tide, -5, 10000, 20000, -1, -1);
        sails(tide, 100000, 10000, 0, -1, -1);
    }

    private static void sailWithinTheTable() {
        TideDepths tide = withTurns(100, 0, 200, 10);
        tide.place(100, 0);
        sails(tide, 0, 100, 100, 100, 100);
        sails(tide, 0, 100, 101, -1, -1);
        sails(tide, 0, 99, 100, -1, -1);
        sails(tide, 0, 101, 100, 100, 100);
        sails(tide, 0, 103, 100, 100, 102);
        sails(tide, 0, 1, 100, -1, -1);
        tide.place(1000000, 100000);
        sails(tide, 0, 10000, 100, -1, -1);
        sails(tide, 0, 1, 100, -1, -1);
        TideDepths here = withTurns(100, 0, 200, 10);
        here.place(0, 0);
        sails(here, 0, 1, 200, 200, 200);
        sails(here, 9, 66, 101, 180, 200);
        sails(here, 10, 66, 100, 200, 200);
        sails(here, 10, 67, 100, -1, -1);
    }

    private static void sailWithSquat() {
        TideDepths tide = withTurns(0, 0, 64, 32768, 128, 0);
        tide.place(0, 0);
        // 16384 is reached at 32; with 100 thousandths of 14894 it is 14894 + 1490.
        sails(tide, 14894, 1200, 0, 32, 96);
        sails(tide, 14895, 1200, 0, 33, 95);
        sails(tide, 16384, 66, 0, 32, 96);
        sails(tide, 16384, 67, 0, 33, 95);
        TideDepths high = withTurns(0, 0, 64, 100000, 128, 0);
        high.place(0, 10000);
        // A need above 30000 is no draft, but its squat is told all the same.
        sails(high, 100000, 1200, 0, 64, 64);
        sails(high, 100000, 66, 0, 51, 77);
        TideDepths low = withTurns(0, 0, 64, -1000);
        low.place(0, 0);
        sails(low, -1000, 1200, 0, 0, 64);
        sails(low, -500, 1200, 0, 0, 32);
        sails(low, -1, 1200, 0, 0, 1);
        sails(low, 0, 1200, 0, 0, 0);
        sails(low, 1, 1200, 0, -1, -1);
    }

    private static void sailThrowsTheFirstTold() {
        TideDepths none = new TideDepths();
        Check.throwing("sail without a table", ARGUMENT, () -> none.sail(0, 0, 0, 0));
        TideDepths tide = withTurns(100, 0, 200, 10);
        Check.throwing("sail without places", STATE, () -> tide.sail(0, 1, 100, 0));
        Check.throwing("sail without places, speed 0", STATE, () -> tide.sail(0, 0, 100, 0));
        sailOfWrongInputs(tide);
        tide.place(0, 0);
        sailOfWrongInputs(tide);
        Check.throwing("sail with speed 0", ARITHMETIC, () -> tide.sail(0, 0, 100, 0));
        Check.throwing("sail with speed 0, 1", ARITHMETIC, () -> tide.sail(100000, 0, 200, 1));
    }

    private static void sailOfWrongInputs(TideDepths tide) {
        for (long far : new long[] {99, 201, FAR[0], FAR[1]}) {
            Check.throwing("sail from " + far, ARGUMENT, () -> tide.sail(0, 0, far, 0));
        }
        for (long far : new long[] {-100001, 100001, FAR[0], FAR[1]}) {
            Check.throwing("sail of need " + far, ARGUMENT, () -> tide.sail(far, 0, 100, 0));
        }
        for (long far : new long[] {-1, 10001, FAR[0], FAR[1]}) {
            Check.throwing("sail with " + far, ARGUMENT, () -> tide.sail(0, far, 100, 0));
        }
        for (int far : new int[] {-1, 2, FAR_INTS[0], FAR_INTS[1]}) {
            Check.throwing("sail of side " + far, ARGUMENT, () -> tide.sail(0, 0, 100, far));
        }
    }

    private static void read() {
        TideDepths tide = withTurns(3, -9, 67, 1000);
        tide.observe(35, 400);
        tide.observe(67, 1001);
        Check.due("read(0, 0)", 3, () -> tide.read(0, 0));
        Check.due("read(0, 1)", -9, () -> tide.read(0, 1));
        Check.due("read(1, 0)", 67, () -> tide.read(1, 0));
        Check.due("read(1, 1)", 1000, () -> tide.read(1, 1));
        Check.due("read(100, 2)", 35, () -> tide.read(100, 2));
        Check.due("read(100, 3)", -95, () -> tide.read(100, 3));
        Check.due("read(101, 2)", 67, () -> tide.read(101, 2));
        Check.due("read(101, 3)", 1, () -> tide.read(101, 3));
        for (int far : new int[] {-1, 2, 100, 101, FAR_INTS[0], FAR_INTS[1]}) {
            Check.throwing("read(" + far + ", 0)", INDEX, () -> tide.read(far, 0));
            Check.throwing("read(" + far + ", 1)", INDEX, () -> tide.read(far, 1));
        }
        for (int far : new int[] {-1, 0, 1, 99, 102, FAR_INTS[0], FAR_INTS[0] + 100, FAR_INTS[1]}) {
            Check.throwing("read(" + far + ", 2)", INDEX, () -> tide.read(far, 2));
            Check.throwing("read(" + far + ", 3)", INDEX, () -> tide.read(far, 3));
        }
        for (int what : new int[] {-1, 4, FAR_INTS[0], FAR_INTS[1]}) {
            Check.throwing("read(0, " + what + ")", INDEX, () -> tide.read(0, what));
            Check.throwing("read(100, " + what + ")", INDEX, () -> tide.read(100, what));
        }
    }

    private static void count() {
        TideDepths tide = withTurns(17, 5);
        counts(tide, 1, 0, 0, -1, -1);
        tide.turn(18, 6);
        tide.observe(17, 0);
        tide.place(4, 4);
        tide.place(5, 5);
        tide.place(6, 5);
        counts(tide, 2, 1, 3, 17, 18);
        tide.turn(40, 0);
        counts(tide, 3, 1, 3, 17, 40);
        for (int what : new int[] {-1, 5, FAR_INTS[0], FAR_INTS[1]}) {
            Check.due("count(" + what + ")", TideDepths.NONE, () -> tide.count(what));
        }
        Check.due("NONE", -1, () -> TideDepths.NONE);
    }
}
