import java.util.ArrayList;
import java.util.List;

/** The document's words second by second, without any haste: what TideDepths is held against. */
final class PlainTide {
    private record Pair(long first, long second) {
    }

    static final int[] COSINE = {
        0, 20, 79, 177, 315, 491, 705, 958, 1247, 1573, 1935, 2331, 2761, 3224, 3719, 4244, 4799,
        5381, 5990, 6624, 7282, 7961, 8661, 9379, 10114, 10864, 11628, 12403, 13188, 13980, 14778,
        15580, 16384, 17188, 17990, 18788, 19580, 20365, 21140, 21904, 22654, 23389, 24107, 24807,
        25486, 26144, 26778, 27387, 27969, 28524, 29049, 29544, 30007, 30437, 30833, 31195, 31521,
        31810, 32063, 32277, 32453, 32591, 32689, 32748, 32768};

    private static final long[] SQUATS = {0, 3, 11, 24, 43, 68, 100};

    private final List<Pair> turns = new ArrayList<>();
    private final List<Pair> observations = new ArrayList<>();
    private final List<Pair> places = new ArrayList<>();

    int turn(long time, long height) {
        argument(time >= 0 && time <= 20000 && canBe(height));
        argument(turns.isEmpty() || time > last(turns).first());
        state(turns.size() < 40);
        int n = turns.size();
        if (n >= 1 && last(turns).second() == height) {
            return 0;
        }
        if (n >= 2) {
            boolean wasUp = turns.get(n - 1).second() > turns.get(n - 2).second();
            boolean isUp = height > turns.get(n - 1).second();
            if (wasUp == isUp) {
                return 0;
            }
        }
        turns.add(new Pair(time, height));
        return 1;
    }

    long height(long time) {
        argument(inTable(time));
        return tableHeight(time) + correction(time);
    }

    int observe(long time, long height) {
        argument(inTable(time) && canBe(height));
        argument(observations.isEmpty() || time >= last(observations).first());
        state(observations.size() < 16);
        observations.add(new Pair(time, height - tableHeight(time)));
        return observations.size();
    }

    int span(long base, long need, long from, int side) {
        argument(inTable(from) && canBe(base) && canBe(need) && side >= 0 && side <= 3);
        List<Pair> spans = new ArrayList<>();
        long start = -1;
        long end = last(turns).first();
        for (long t = from; t <= end + 1; t++) {
            boolean suffices = t <= end && base + height(t) >= need;
            if (suffices && start < 0) {
                start = t;
            }
            if (!suffices && start >= 0) {
                spans.add(new Pair(start, t - 1));
                start = -1;
            }
        }
        if (spans.isEmpty()) {
            return -1;
        }
        Pair chosen = spans.get(0);
        for (Pair one : spans) {
            boolean longer = one.second() - one.first() > chosen.second() - chosen.first();
            chosen = side >= 2 && longer ? one : chosen;
        }
        return (int) (side % 2 == 0 ? chosen.first() : chosen.second());
    }

    long squat(long speed, long draft) {
        argument(speed >= 0 && speed <= 10000 && draft >= 0 && draft <= 30000);
        return squatOf(speed, draft);
    }

    long passing(long way, long speed) {
        argument(way >= 0 && way <= 1000000 && speed >= 0 && speed <= 10000);
        return up(100 * way, speed);
    }

    long draft(long draft, long before, long after) {
        argument(draft >= 0 && draft <= 30000);
        argument(before >= 900 && before <= 1100 && after >= 900 && after <= 1100);
        return up(draft * before, after);
    }

    int place(long way, long base) {
        argument(way >= 0 && way <= 1000000 && canBe(base));
        argument(places.isEmpty() || way > last(places).first());
        state(places.size() < 12);
        places.add(new Pair(way, base));
        return places.size() - 1;
    }

    long depth(int place, long time) {
        if (place < 0 || place >= places.size()) {
            throw new IndexOutOfBoundsException();
        }
        return places.get(place).second() + height(time);
    }

    int sail(long need, long speed, long from, int side) {
        argument(inTable(from) && canBe(need) && speed >= 0 && speed <= 10000);
        argument(side == 0 || side == 1);
        state(!places.isEmpty());
        up(1, speed);
        long end = last(turns).first();
        long first = from;
        while (first <= end && !mayBe(need, speed, first)) {
            first++;
        }
        if (first > end) {
            return -1;
        }
        long last = first;
        while (mayBe(need, speed, last + 1)) {
            last++;
        }
        return (int) (side == 0 ? first : last);
    }

    long read(int i, int what) {
        List<Pair> read = what < 2 ? turns : observations;
        int at = what < 2 ? i : Math.max(i, -1000) - 100;
        if (what < 0 || what > 3 || at < 0 || at >= read.size()) {
            throw new IndexOutOfBoundsException();
        }
        return what % 2 == 0 ? read.get(at).first() : read.get(at).second();
    }

    int count(int what) {
        boolean hasTable = turns.size() >= 2;
        return switch (what) {
            case 0 -> turns.size();
            case 1 -> observations.size();
            case 2 -> places.size();
            case 3 -> hasTable ? (int) turns.get(0).first() : -1;
            case 4 -> hasTable ? (int) last(turns).first() : -1;
            default -> -1;
        };
    }

    private boolean mayBe(long need, long speed, long second) {
        long due = need < 0 ? need : need + squatOf(speed, need);
        for (Pair place : places) {
            long passed = second + up(100 * place.first(), speed);
            if (!inTable(passed) || place.second() + height(passed) < due) {
                return false;
            }
        }
        return true;
    }

    private long tableHeight(long t) {
        for (int n = 0; n < turns.size(); n++) {
            if (turns.get(n).first() == t) {
                return turns.get(n).second();
            }
        }
        int behind = 0;
        while (turns.get(behind).first() < t) {
            behind++;
        }
        long t0 = turns.get(behind - 1).first();
        long h0 = turns.get(behind - 1).second();
        long t1 = turns.get(behind).first();
        long h1 = turns.get(behind).second();
        long x = 64 * (t - t0);
        int i = (int) Math.floorDiv(x, t1 - t0);
        long ci = COSINE[i];
        long k = ci + Math.floorDiv((COSINE[i + 1] - ci) * (x - i * (t1 - t0)), t1 - t0);
        return h0 + Math.floorDiv((h1 - h0) * k, 32768L);
    }

    private long correction(long time) {
        Pair latest = null;
        for (Pair one : observations) {
            latest = one.first() <= time ? one : latest;
        }
        if (latest == null) {
            return 0;
        }
        long left = latest.second();
        for (long gone = 600; gone <= time - latest.first(); gone += 600) {
            left = Long.signum(left) * (Math.abs(left) / 2);
        }
        return left;
    }

    private static long squatOf(long speed, long draft) {
        long slow = Math.min(speed, 1200);
        int row = (int) Math.min(slow / 200, 5);
        long line = SQUATS[row] * 200 + (SQUATS[row + 1] - SQUATS[row]) * (slow - 200 * row);
        return up(draft * Math.floorDiv(line, 200L), 1000);
    }

    private boolean inTable(long time) {
        return turns.size() >= 2 && time >= turns.get(0).first() && time <= last(turns).first();
    }

    private static boolean canBe(long level) {
        return level >= -100000 && level <= 100000;
    }

    private static long up(long value, long divisor) {
        return -Math.floorDiv(-value, divisor);
    }

    private static Pair last(List<Pair> pairs) {
        return pairs.get(pairs.size() - 1);
    }

    private static void argument(boolean holds) {
        if (!holds) {
            throw new IllegalArgumentException();
        }
    }

    private static void state(boolean holds) {
        if (!holds) {
            throw new IllegalStateException();
        }
    }
}
