import java.util.Random;

/** Runs of random calls, the same ones each time, on a TideDepths and a PlainTide side by side. */
public final class AgainstPlainTest {
    private static final int RUNS = 1200;
    private static final int CALLS = 120;

    private final Random random;
    private final long latest;
    private final long greatest;
    private final TideDepths tide = new TideDepths();
    private final PlainTide plain = new PlainTide();
    private long turnTime;
    private long observedTime;
    private long way;

    private AgainstPlainTest(int seed) {
        random = new Random(seed);
        latest = pick(30, 300, 3000, 20000);
        greatest = pick(3, 100, 3000, 100000);
        turnTime = random.nextInt((int) latest / 4) - 1;
    }

    public static void main(String[] args) {
        for (int seed = 1; seed <= RUNS && Check.allAsDue(); seed++) {
            new AgainstPlainTest(seed).run(seed);
        }
        Check.end();
    }

    private void run(int seed) {
        String name = "run " + seed + ": ";
        for (int n = 0; n < 6; n++) {
            turn(name);
        }
        for (int n = 0; n < CALLS && Check.allAsDue(); n++) {
            call(name, n);
        }
        everything(name);
    }

    private void call(String name, int n) {
        switch (random.nextInt(14)) {
            case 0, 1 -> turn(name);
            case 2 -> observe(name);
            case 3 -> place(name);
            case 4, 5 -> span(name);
            case 6, 7, 8 -> sail(name);
            case 9 -> {
                int place = random.nextInt(14) - 1;
                long time = time();
                both(name + "depth(" + place + ", " + time + ")",
                    () -> plain.depth(place, time), () -> tide.depth(place, time));
            }
            case 10 -> speeds(name);
            case 11 -> {
                int i = random.nextInt(45) - 2 + 100 * random.nextInt(2);
                int what = random.nextInt(6) - 1;
                both(name + "read(" + i + ", " + what + ")",
                    () -> plain.read(i, what), () -> tide.read(i, what));
            }
            default -> {
                long time = time();
                both(name + "height(" + time + ")",
                    () -> plain.height(time), () -> tide.height(time));
            }
        }
        // What throws changes nothing: the counts stay together behind every call.
        for (int i = -1; i <= 5; i++) {
            int what = i;
            both(name + "call " + n + ", then count(" + i + ")",
                () -> plain.count(what), () -> tide.count(what));
        }
    }

    private void turn(String name) {
        boolean wild = random.nextInt(12) == 0;
        long time = wild ? time() : turnTime + 1 + random.nextInt((int) latest / 12 + 1);
        long height = level();
        both(name + "turn(" + time + ", " + height + ")",
            () -> plain.turn(time, height), () -> tide.turn(time, height));
        turnTime = Math.max(turnTime, tide.count(4));
    }

    private void observe(String name) {
        boolean wild = random.nextInt(4) == 0;
        long time = wild ? time() : observedTime + random.nextInt((int) latest / 8 + 1);
        long height = level();
        both(name + "observe(" + time + ", " + height + ")",
            () -> plain.observe(time, height), () -> tide.observe(time, height));
        int told = tide.count(1);
        observedTime = told == 0 ? Math.max(0, tide.count(3)) : tide.read(99 + told, 2);
    }

    private void place(String name) {
        boolean wild = random.nextInt(8) == 0;
        long told = wild ? random.nextInt(1000003) - 1 : way + random.nextInt(200);
        long base = level();
        both(name + "place(" + told + ", " + base + ")",
            () -> plain.place(told, base), () -> tide.place(told, base));
        way = wild ? way : told;
    }

    private void span(String name) {
        long base = level();
        long need = random.nextInt(3) == 0 ? level() : base + level() / 2;
        long from = time();
        int side = random.nextInt(20) == 0 ? random.nextInt(9) - 3 : random.nextInt(4);
        both(name + "span(" + base + ", " + need + ", " + from + ", " + side + ")",
            () -> plain.span(base, need, from, side), () -> tide.span(base, need, from, side));
    }

    private void sail(String name) {
        long need = random.nextInt(3) == 0 ? level() : -Math.abs(level());
        long speed = speed();
        long from = random.nextInt(3) == 0 ? tide.count(3) : time();
        int side = random.nextInt(20) == 0 ? random.nextInt(5) - 2 : random.nextInt(2);
        both(name + "sail(" + need + ", " + speed + ", " + from + ", " + side + ")",
            () -> plain.sail(need, speed, from, side), () -> tide.sail(need, speed, from, side));
    }

    private void speeds(String name) {
        long speed = speed();
        long draft = random.nextInt(30100) - 50;
        long before = 895 + random.nextInt(210);
        long after = 895 + random.nextInt(210);
        both(name + "squat(" + speed + ", " + draft + ")",
            () -> plain.squat(speed, draft), () -> tide.squat(speed, draft));
        both(name + "passing(" + draft + ", " + speed + ")",
            () -> plain.passing(draft, speed), () -> tide.passing(draft, speed));
        both(name + "draft(" + draft + ", " + before + ", " + after + ")",
            () -> plain.draft(draft, before, after), () -> tide.draft(draft, before, after));
    }

    private void everything(String name) {
        for (int i = 0; i < 40; i++) {
            for (int w = 0; w < 4; w++) {
                int at = w < 2 ? i : 100 + i;
                int what = w;
                both(name + "at the end read(" + at + ", " + what + ")",
                    () -> plain.read(at, what), () -> tide.read(at, what));
            }
        }
        for (long t = -1; t <= latest + 1; t++) {
            long time = t;
            both(name + "at the end height(" + t + ")",
                () -> plain.height(time), () -> tide.height(time));
        }
    }

    private static void both(String what, Check.Call due, Check.Call got) {
        Check.report(what, Check.outcome(due), Check.outcome(got));
    }

    private long time() {
        return random.nextInt((int) latest + 3) - 1;
    }

    private long level() {
        return random.nextInt((int) (2 * greatest + 3)) - greatest - 1;
    }

    private long speed() {
        return random.nextInt(10) == 0 ? random.nextInt(10003) - 1 : random.nextInt(1500);
    }

    private long pick(long... of) {
        return of[random.nextInt(of.length)];
    }
}
