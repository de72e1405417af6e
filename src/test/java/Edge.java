import java.util.function.Supplier;

/**
 * Calls at an edge, each on an object made for it alone. Whether a call has changed anything is
 * told by a second object made alike, on which it was not called: all that can be asked of the two
 * is the same, and so is what they take next.
 */
final class Edge {
    interface Use {
        long on(TideDepths tide);
    }

    private Edge() {
    }

    /** Throws, throws again, and has changed nothing. */
    static void refused(String what, Class<? extends RuntimeException> want,
            Supplier<TideDepths> made, Use call) {
        TideDepths tried = made.get();
        Check.throwing(what, want, () -> call.on(tried));
        Check.throwing(what + ", once more", want, () -> call.on(tried));
        Check.report(what + ": all that is told then", everything(made.get()), everything(tried));
    }

    /** Answers, answers the same again, and has changed nothing. */
    static void asked(String what, long want, Supplier<TideDepths> made, Use call) {
        TideDepths tried = made.get();
        Check.due(what, want, () -> call.on(tried));
        Check.due(what + ", once more", want, () -> call.on(tried));
        Check.report(what + ": all that is told then", everything(made.get()), everything(tried));
    }

    /** Answers, and then another call tells what has come of it. */
    static void taken(String what, long want, Supplier<TideDepths> made, Use call,
            long wantThen, Use then) {
        TideDepths tried = made.get();
        Check.due(what, want, () -> call.on(tried));
        Check.due(what + ", then", wantThen, () -> then.on(tried));
    }

    /** Some 270 calls at most, so that with the making of a full object 512 are not reached. */
    private static String everything(TideDepths tide) {
        StringBuilder told = new StringBuilder();
        held(tide, told);
        answers(tide, told);
        takesNext(tide, told);
        return told.toString();
    }

    private static void held(TideDepths tide, StringBuilder told) {
        for (int i = -1; i <= 5; i++) {
            int what = i;
            add(told, () -> tide.count(what));
        }
        int turns = tide.count(0);
        for (int i = -1; i <= turns; i++) {
            int turn = i;
            add(told, () -> tide.read(turn, 0));
            add(told, () -> tide.read(turn, 1));
        }
        int observations = tide.count(1);
        for (int i = 99; i <= 100 + observations; i++) {
            int observation = i;
            add(told, () -> tide.read(observation, 2));
            add(told, () -> tide.read(observation, 3));
        }
    }

    private static void answers(TideDepths tide, StringBuilder told) {
        long first = Math.max(0, tide.count(3));
        long last = Math.max(20, tide.count(4));
        for (int n = -1; n <= 21; n++) {
            long time = first + n * (last - first) / 20;
            add(told, () -> tide.height(time));
        }
        int places = tide.count(2);
        for (int i = -1; i <= places; i++) {
            int place = i;
            add(told, () -> tide.depth(place, first));
            add(told, () -> tide.depth(place, last));
        }
        for (long need : new long[] {-1000, 0, 400, 100000}) {
            for (int i = 0; i < 4; i++) {
                int side = i;
                add(told, () -> tide.span(0, need, first, side));
            }
        }
        // The ways can't be read; by the slow speed the last second to sail at tells them.
        for (long need : new long[] {-100000, 0, 3000, 4000}) {
            for (long speed : new long[] {33, 100, 1200}) {
                add(told, () -> tide.sail(need, speed, first, 0));
                add(told, () -> tide.sail(need, speed, first, 1));
            }
        }
    }

    private static void takesNext(TideDepths tide, StringBuilder told) {
        int observations = tide.count(1);
        long observed = observations == 0 ? 0 : tide.read(99 + observations, 2);
        for (long time : new long[] {observed - 1, observed, observed + 1}) {
            add(told, () -> tide.observe(time, 7));
        }
        for (long way : new long[] {0, 1, 109, 110, 111, 119, 120, 121, 999999, 1000000}) {
            add(told, () -> tide.place(way, 0));
        }
        int turns = tide.count(0);
        long turned = turns == 0 ? 0 : tide.read(turns - 1, 0);
        for (long time : new long[] {turned, turned + 1, turned + 2}) {
            add(told, () -> tide.turn(time, 90000));
            add(told, () -> tide.turn(time, -90000));
        }
        for (int i = 0; i < 5; i++) {
            int what = i;
            add(told, () -> tide.count(what));
        }
    }

    private static void add(StringBuilder told, Check.Call call) {
        told.append(Check.outcome(call)).append(' ');
    }
}
