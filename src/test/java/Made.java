/** Objects made by the same calls each time, so that two of them are alike. */
final class Made {
    /** How many calls tide() and full() take of the 512. */
    static final int TIDE_CALLS = 9;
    static final int FULL_CALLS = 68;

    private Made() {
    }

    static TideDepths empty() {
        return new TideDepths();
    }

    static TideDepths withTurns(long... timesAndHeights) {
        TideDepths tide = new TideDepths();
        for (int i = 0; i + 1 < timesAndHeights.length; i += 2) {
            long time = timesAndHeights[i];
            long height = timesAndHeights[i + 1];
            Check.due("turn(" + time + ", " + height + ")", 1, () -> tide.turn(time, height));
        }
        return tide;
    }

    static TideDepths oneTurn() {
        return withTurns(100, 50);
    }

    /** All times, from the least height to the greatest one. */
    static TideDepths wide() {
        return withTurns(0, -100000, 20000, 100000);
    }

    /** All times, of height 0 but for the last second's 1, so that corrections stand alone. */
    static TideDepths flat() {
        return withTurns(0, 0, 20000, 1);
    }

    /** Something of everything: seconds 100 .. 420, differences 50 and -100, ways 0, 50, 120. */
    static TideDepths tide() {
        TideDepths tide = withTurns(100, -200, 164, 1000, 292, -500, 420, 800);
        tide.observe(132, 450);
        tide.observe(228, 150);
        tide.place(0, 5000);
        tide.place(50, 4000);
        tide.place(120, 6000);
        return tide;
    }

    static TideDepths turnsTold(int howMany) {
        TideDepths tide = new TideDepths();
        for (int i = 0; i < howMany; i++) {
            tide.turn(10 + 100 * i, i % 2 == 0 ? -300 - i : 700 + i);
        }
        return tide;
    }

    static TideDepths observationsTold(TideDepths tide, int howMany) {
        for (int i = 0; i < howMany; i++) {
            tide.observe(200 + 200 * i, i % 2 == 0 ? -40 : 100);
        }
        return tide;
    }

    static TideDepths placesTold(TideDepths tide, int howMany) {
        for (int i = 0; i < howMany; i++) {
            tide.place(10 * i, 3000 + 100 * i);
        }
        return tide;
    }

    /** As much of everything as can be: seconds 10 .. 3910, ways 0 .. 110. */
    static TideDepths full() {
        return placesTold(observationsTold(turnsTold(40), 16), 12);
    }
}
