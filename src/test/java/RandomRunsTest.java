import java.util.Arrays;
import java.util.Random;
import java.util.function.LongSupplier;

/** Random runs of at most 512 calls: the class answers and throws just as the Model does. */
public final class RandomRunsTest {
    private static final int RUNS = 1200;
    private static int wrong;
    private static final int[] ANSWERED = new int[24];
    private static final int[] THREW = new int[24];
    private static final int[] CLIMBS = new int[6];
    private static int longestRow;
    private static int faults;

    private final Random random;
    private final int seed;
    private final WakeBanks sea = new WakeBanks();
    private final Model model = new Model();
    /** How likely a wrong argument is, in hundredths; and how wild the weather is. */
    private final int wild;
    private int lastSpeed = 10;
    private int lastSector;

    private RandomRunsTest(int seed) {
        this.seed = seed;
        random = new Random(seed);
        wild = seed % 3 == 0 ? 12 : 2;
    }

    public static void main(String[] args) {
        for (int seed = 1; seed <= RUNS && wrong == 0; seed++) {
            new RandomRunsTest(seed).run();
        }
        System.out.println("answered, by call: " + Arrays.toString(ANSWERED));
        System.out.println("threw, by call: " + Arrays.toString(THREW));
        System.out.println("climb: " + Arrays.toString(CLIMBS) + ", longest row of EXTREMES: "
                + longestRow + ", calls with a FAULTED one: " + faults);
        for (int call = 0; call < 24; call++) {
            boolean mayThrow = call != 18 && call != 21 && call != 22 && call != 23;
            if (ANSWERED[call] == 0 && call != 23 || mayThrow && THREW[call] == 0) {
                System.out.println("the runs never did this: call " + call);
                wrong++;
            }
        }
        for (int answer = 0; answer < 6; answer++) {
            if (CLIMBS[answer] == 0) {
                System.out.println("the runs never did this: climb answers " + answer);
                wrong++;
            }
        }
        if (wrong > 0) {
            System.exit(1);
        }
        System.out.println("RandomRunsTest: " + RUNS + " runs answer as the model does");
    }

    private void run() {
        int calls = 40 + random.nextInt(473);
        for (int i = 0; i < calls && wrong == 0; i++) {
            if (i < 12 && seed % 4 != 0) {
                tell(i);
            } else {
                any(i);
            }
            if (i % 10 == 0) {
                same(i, 22, sea::digest, model::digest);
            }
            if (sea.many(5) > 0) {
                faults++;
            }
        }
        same(calls, 22, sea::digest, model::digest);
        same(calls, 21, sea::bestPlace, model::bestPlace);
        for (int i = 0; i < sea.many(0); i++) {
            longestRow = Math.max(longestRow, sea.ofTurbine(i, 6));
        }
    }

    private void tell(int i) {
        if (i < 3) {
            int rating = random.nextBoolean() ? 9999 : 100 + random.nextInt(4000);
            same(i, 0, () -> sea.string(rating), () -> model.string(rating));
        } else if (i < 10) {
            turbine(i, 3 + random.nextInt(14), 3 + random.nextInt(14));
        } else {
            int limit = 5 + random.nextInt(36);
            same(i, 2, () -> sea.vessel(limit), () -> model.vessel(limit));
        }
    }

    private void turbine(int i, int x, int y) {
        int string = pick(0, 2);
        same(i, 1, () -> sea.turbine(x, y, string), () -> model.turbine(x, y, string));
    }

    /** A number from least to most; now and then one beyond, or any at all. */
    private int pick(int least, int most) {
        int chance = random.nextInt(100);
        if (chance >= wild) {
            return least + random.nextInt(most - least + 1);
        }
        switch (chance % 5) {
            case 0:
                return least - 1;
            case 1:
                return most + 1;
            case 2:
                return random.nextInt();
            case 3:
                return random.nextBoolean() ? Integer.MIN_VALUE : Integer.MAX_VALUE;
            default:
                return random.nextBoolean() ? least : most;
        }
    }

    private int turbineNumber() {
        return pick(0, Math.max(0, sea.many(0) - 1));
    }

    private int vesselNumber() {
        return pick(0, Math.max(0, sea.many(2) - 1));
    }

    private void any(int i) {
        int chance = random.nextInt(100);
        if (chance < 30) {
            blow(i);
        } else if (chance < 34) {
            mend(i, turbineNumber(), vesselNumber());
        } else if (chance < 70) {
            doSomething(i, random.nextInt(10));
        } else {
            ask(i, random.nextInt(13));
        }
    }

    private void blow(int i) {
        boolean isLong = seed % 5 != 0 && random.nextInt(4) == 0;
        int hours = isLong ? pick(1, 24) : pick(1, seed % 5 == 0 ? 1 : 4);
        if (random.nextInt(3) == 0) {
            lastSector = pick(0, 7);
        }
        int calm = random.nextInt(10);
        lastSpeed = calm == 0 ? pick(0, 30) : calm < 7 ? pick(4, 22) : lastSpeed;
        int sector = lastSector;
        int speed = lastSpeed;
        int wave = random.nextBoolean() ? pick(0, 12) : pick(0, 60);
        int price = pick(-50, 200);
        int order = random.nextInt(3) == 0 ? pick(0, 9000) : 20000;
        same(i, 4, () -> sea.blow(hours, sector, speed, wave, price, order),
                () -> model.blow(hours, sector, speed, wave, price, order));
    }

    private void doSomething(int i, int which) {
        int t = turbineNumber();
        int v = vesselNumber();
        boolean is = random.nextBoolean();
        switch (which) {
            case 0:
                int rating = pick(100, 9999);
                same(i, 0, () -> sea.string(rating), () -> model.string(rating));
                turbine(i, pick(0, 19), pick(0, 19));
                int limit = pick(5, 40);
                same(i, 2, () -> sea.vessel(limit), () -> model.vessel(limit));
                break;
            case 1:
                int hour = pick(sea.many(3) + 1, sea.many(3) + 24);
                int much = pick(0, random.nextBoolean() ? 20000 : 4000);
                same(i, 3, () -> sea.nominate(hour, much), () -> model.nominate(hour, much));
                break;
            case 2:
                int turn = pick(-2, 2);
                same(i, 5, () -> sea.turn(t, turn), () -> model.turn(t, turn));
                break;
            case 3:
            case 4:
                same(i, 6, () -> sea.call(t, is), () -> model.call(t, is));
                break;
            case 5:
                int price = random.nextInt(3) == 0 ? pick(-51, 50) : -51;
                same(i, 7, () -> sea.floor(price), () -> model.floor(price));
                break;
            case 6:
                int to = random.nextInt(4) == 0 ? -1 : t;
                same(i, 8, () -> sea.sail(v, to), () -> model.sail(v, to));
                break;
            case 7:
                same(i, 9, () -> sea.lock(v, is), () -> model.lock(v, is));
                break;
            case 8:
                climb(i, v, pick(0, 2));
                break;
            default:
                same(i, 11, () -> sea.down(v), () -> model.down(v));
                break;
        }
    }

    /** What a crew does for a worn TURBINE, whichever of the calls may be refused. */
    private void mend(int i, int t, int v) {
        same(i, 11, () -> sea.down(v), () -> model.down(v));
        same(i, 8, () -> sea.sail(v, t), () -> model.sail(v, t));
        same(i, 9, () -> sea.lock(v, true), () -> model.lock(v, true));
        int part = Math.max(0, t >= 0 && t < sea.many(0) ? sea.ofTurbine(t, 7) : 0);
        int hours = 1 + random.nextInt(12);
        same(i, 4, () -> sea.blow(hours, 1, 9, 3, 5, 9000), () -> model.blow(hours, 1, 9, 3, 5, 9000));
        climb(i, v, random.nextInt(4) == 0 ? pick(0, 2) : part);
        if (random.nextInt(3) > 0) {
            same(i, 4, () -> sea.blow(6, 2, 14, 4, 5, 9000), () -> model.blow(6, 2, 14, 4, 5, 9000));
            same(i, 11, () -> sea.down(v), () -> model.down(v));
            same(i, 9, () -> sea.lock(v, false), () -> model.lock(v, false));
        }
    }

    private void climb(int i, int v, int part) {
        same(i, 10, () -> {
            int answer = sea.climb(v, part);
            CLIMBS[answer]++;
            return answer;
        }, () -> model.climb(v, part));
    }

    private void ask(int i, int which) {
        int t = turbineNumber();
        int other = turbineNumber();
        int v = vesselNumber();
        int what = pick(0, which == 6 ? 3 : which == 7 ? 4 : which == 8 ? 13 : 9);
        switch (which) {
            case 0:
                same(i, 12, () -> sea.ofTurbine(t, what), () -> model.ofTurbine(t, what));
                break;
            case 1:
                int part = pick(0, 2);
                same(i, 13, () -> sea.wear(t, part), () -> model.wear(t, part));
                break;
            case 2:
                int cause = pick(0, 7);
                same(i, 14, () -> sea.lost(t, cause), () -> model.lost(t, cause));
                break;
            case 3:
            case 4:
                same(i, 15, () -> sea.wake(t, other), () -> model.wake(t, other));
                break;
            case 5:
                int k = pick(0, 8);
                same(i, 16, () -> sea.extreme(t, k), () -> model.extreme(t, k));
                break;
            case 6:
                int s = pick(0, 2);
                same(i, 17, () -> sea.ofString(s, what), () -> model.ofString(s, what));
                break;
            case 7:
                same(i, 19, () -> sea.ofVessel(v, what), () -> model.ofVessel(v, what));
                break;
            case 8:
                same(i, 20, () -> sea.many(what), () -> model.many(what));
                break;
            case 9:
                same(i, 18, () -> Double.doubleToLongBits(sea.meanDelivered()),
                        () -> Double.doubleToLongBits(model.meanDelivered()));
                break;
            case 10:
                int hours = pick(1, 24);
                same(i, 12, () -> sea.wouldDeliver(hours), () -> model.wouldDeliver(hours));
                break;
            case 11:
                same(i, 12, () -> sea.bestTurn(t), () -> model.bestTurn(t));
                break;
            default:
                if (random.nextInt(8) == 0) {
                    same(i, 21, sea::bestPlace, model::bestPlace);
                }
                break;
        }
    }

    private void same(int i, int call, LongSupplier got, LongSupplier due) {
        String have = answer(got);
        String want = answer(due);
        (have.startsWith("throws") ? THREW : ANSWERED)[call]++;
        if (!have.equals(want)) {
            wrong++;
            System.out.println("seed " + seed + ", step " + i + ", call " + call + ": " + have
                    + ", due is " + want);
        }
    }

    private static String answer(LongSupplier call) {
        try {
            return Long.toString(call.getAsLong());
        } catch (RuntimeException e) {
            return "throws " + e.getClass().getName();
        }
    }
}
