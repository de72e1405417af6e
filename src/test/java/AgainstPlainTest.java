import java.util.ArrayList;
import java.util.List;
import java.util.Random;
import java.util.function.ToLongFunction;

/**
 * Runs of random calls, the same ones each time, on a TideDepths and a PlainTide side by side. No
 * object is used for more than the 512 calls that the document speaks of.
 */
public final class AgainstPlainTest {
    private static final int RUNS = 1200;
    private static final int CALLS = 120;
    private static final int MOST_CALLS_OF_AN_OBJECT = 512;
    private static final int HEIGHTS_OF_AN_OBJECT = 300;

    private final Random random;
    private final long latest;
    private final long greatest;
    private final boolean many;
    private final TideDepths tide = new TideDepths();
    private final PlainTide plain = new PlainTide();
    private final List<ToLongFunction<TideDepths>> told = new ArrayList<>();
    private int used;
    private long turnTime;
    private long observedTime;
    private long way;

    private AgainstPlainTest(int seed) {
        random = new Random(seed);
        latest = pick(30, 300, 3000, 20000);
        greatest = pick(3, 100, 3000, 100000);
        many = random.nextInt(3) == 0;
        turnTime = random.nextInt((int) latest / 4) - 1;
    }

    public static void main(String[] args) {
        for (int seed = 1; seed <= RUNS && Check.allAsDue(); seed++) {
            new AgainstPlainTest(seed).run(seed);
        }
        Check.end();
    }

    private void run(int seed) {
        String name = "run " + seed + ": ";
        for (int n = 0; n < (many ? 70 : 6); n++) {
            turn(name);
        }
        for (int n = 0; many && n < 12; n++) {
            observe(name);
            place(name);
        }
        for (int n = 0; n < CALLS && Check.allAsDue(); n++) {
            call(name, n);
        }
        everythingRead(name);
        everyHeight(name);
        Check.report(name + "calls within what is promised", "true",
            String.valueOf(used <= MOST_CALLS_OF_AN_OBJECT));
    }

    private void call(String name, int n) {
        switch (random.nextInt(14)) {
            case 0, 1 -> turn(name);
            case 2 -> observe(name);
            case 3 -> place(name);
            case 4, 5 -> span(name);
            case 6, 7, 8 -> sail(name);
            case 9 -> {
                int place = random.nextInt(14) - 1;
                long time = time();
                both(name + "depth(" + place + ", " + time + ")",
                    () -> plain.depth(place, time), () -> tide.depth(place, time));
            }
            case 10 -> speeds(name);
            case 11 -> {
                int i = random.nextInt(45) - 2 + 100 * random.nextInt(2);
                int what = random.nextInt(6) - 1;
                both(name + "read(" + i + ", " + what + ")",
                    () -> plain.read(i, what), () -> tide.read(i, what));
            }
            default -> {
                long time = time();
                both(name + "height(" + time + ")",
                    () -> plain.height(time), () -> tide.height(time));
            }
        }
        // What throws changes nothing: the counts stay together behind every call.
        int what = random.nextInt(7) - 1;
        both(name + "call " + n + ", then count(" + what + ")",
            () -> plain.count(what), () -> tide.count(what));
    }

    private void turn(String name) {
        boolean wild = random.nextInt(12) == 0;
        long time = wild ? time() : turnTime + 1 + random.nextInt(step(12));
        long height = level();
        tell(name + "turn(" + time + ", " + height + ")",
            () -> plain.turn(time, height), one -> one.turn(time, height));
        turnTime = Math.max(turnTime, plain.count(4));
    }

    private void observe(String name) {
        boolean wild = random.nextInt(4) == 0;
        long time = wild ? time() : observedTime + random.nextInt(step(8));
        long height = level();
        tell(name + "observe(" + time + ", " + height + ")",
            () -> plain.observe(time, height), one -> one.observe(time, height));
        int known = plain.count(1);
        observedTime = known == 0 ? Math.max(0, plain.count(3)) : plain.read(99 + known, 2);
    }

    private void place(String name) {
        boolean wild = random.nextInt(8) == 0;
        long next = wild ? random.nextInt(1000003) - 1 : way + random.nextInt(200);
        long base = level();
        tell(name + "place(" + next + ", " + base + ")",
            () -> plain.place(next, base), one -> one.place(next, base));
        way = wild ? way : next;
    }

    private void span(String name) {
        long base = level();
        long need = random.nextInt(3) == 0 ? level() : base + level() / 2;
        long from = time();
        int side = random.nextInt(20) == 0 ? random.nextInt(9) - 3 : random.nextInt(4);
        both(name + "span(" + base + ", " + need + ", " + from + ", " + side + ")",
            () -> plain.span(base, need, from, side), () -> tide.span(base, need, from, side));
    }

    private void sail(String name) {
        long need = random.nextInt(3) == 0 ? level() : -Math.abs(level());
        long speed = speed();
        long from = random.nextInt(3) == 0 ? plain.count(3) : time();
        int side = random.nextInt(20) == 0 ? random.nextInt(5) - 2 : random.nextInt(2);
        both(name + "sail(" + need + ", " + speed + ", " + from + ", " + side + ")",
            () -> plain.sail(need, speed, from, side), () -> tide.sail(need, speed, from, side));
    }

    private void speeds(String name) {
        long speed = speed();
        long draft = random.nextInt(30100) - 50;
        long before = 895 + random.nextInt(210);
        long after = 895 + random.nextInt(210);
        both(name + "squat(" + speed + ", " + draft + ")",
            () -> plain.squat(speed, draft), () -> tide.squat(speed, draft));
        both(name + "passing(" + draft + ", " + speed + ")",
            () -> plain.passing(draft, speed), () -> tide.passing(draft, speed));
        both(name + "draft(" + draft + ", " + before + ", " + after + ")",
            () -> plain.draft(draft, before, after), () -> tide.draft(draft, before, after));
    }

    private void everythingRead(String name) {
        for (int i = 0; i <= 40; i++) {
            int turn = i;
            both(name + "at the end read(" + turn + ", 0)",
                () -> plain.read(turn, 0), () -> tide.read(turn, 0));
            both(name + "at the end read(" + turn + ", 1)",
                () -> plain.read(turn, 1), () -> tide.read(turn, 1));
        }
        for (int i = 100; i <= 116; i++) {
            int observation = i;
            both(name + "at the end read(" + observation + ", 2)",
                () -> plain.read(observation, 2), () -> tide.read(observation, 2));
            both(name + "at the end read(" + observation + ", 3)",
                () -> plain.read(observation, 3), () -> tide.read(observation, 3));
        }
    }

    /** Each second of all, on as many objects as that takes, all told the same. */
    private void everyHeight(String name) {
        TideDepths one = toldTheSame();
        for (long t = -1; t <= latest + 1; t++) {
            if (t % HEIGHTS_OF_AN_OBJECT == 0) {
                one = toldTheSame();
            }
            long time = t;
            TideDepths asked = one;
            Check.report(name + "at the end height(" + t + ")",
                Check.outcome(() -> plain.height(time)), Check.outcome(() -> asked.height(time)));
        }
    }

    private TideDepths toldTheSame() {
        TideDepths again = new TideDepths();
        for (ToLongFunction<TideDepths> call : told) {
            Check.outcome(() -> call.applyAsLong(again));
        }
        return again;
    }

    private void tell(String what, Check.Call due, ToLongFunction<TideDepths> call) {
        told.add(call);
        both(what, due, () -> call.applyAsLong(tide));
    }

    private void both(String what, Check.Call due, Check.Call got) {
        used++;
        Check.report(what, Check.outcome(due), Check.outcome(got));
    }

    /** Of a run with many turns and observations the steps are short, so that all find room. */
    private int step(int part) {
        return (int) latest / (many ? 5 * part : part) + 1;
    }

    private long time() {
        return random.nextInt((int) latest + 3) - 1;
    }

    private long level() {
        return random.nextInt((int) (2 * greatest + 3)) - greatest - 1;
    }

    private long speed() {
        return random.nextInt(10) == 0 ? random.nextInt(10003) - 1 : random.nextInt(1500);
    }

    private long pick(long... of) {
        return of[random.nextInt(of.length)];
    }
}
