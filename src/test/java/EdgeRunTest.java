import java.util.Random;

/** Of all promises: 512 calls, the greatest sums, and refused calls that change nothing. */
public final class EdgeRunTest {
    private static final Check CHECK = new Check();

    private EdgeRunTest() {
    }

    public static void main(String[] args) {
        longestRun();
        mostPotential();
        mostMoney();
        leastMoney();
        refusedCallsChangeNothing();
        askingChangesNothing();
        objectsAreApart();
        CHECK.end("EdgeRunTest");
    }

    /** "An object is used for at most 512 calls": the last one answers as the first one does. */
    private static void longestRun() {
        CHECK.part("512 calls (promise 6)");
        WakeBanks sea = new WakeBanks();
        Model model = new Model();
        CHECK.same("string", sea.string(9999), model.string(9999));
        for (int i = 0; i < 8; i++) {
            CHECK.same("turbine", sea.turbine(3 * (i % 4), 5 * (i / 4), 0),
                    model.turbine(3 * (i % 4), 5 * (i / 4), 0));
        }
        for (int call = 9; call < 511; call++) {
            int sector = call % 8;
            int speed = call * 7 % 31;
            CHECK.same("blow " + call, sea.blow(24, sector, speed, 60, 200, 20000),
                    model.blow(24, sector, speed, 60, 200, 20000));
        }
        CHECK.same("the 512th", sea.digest(), model.digest());
        CHECK.same("HOUR", model.many(3), 502 * 24);
    }

    /** POTENTIAL, DELIVERED and what was lost have room for the most that 512 calls can make. */
    private static void mostPotential() {
        CHECK.part("the greatest sums (promises 16, 21)");
        WakeBanks sea = Seas.apart(9999, 8);
        for (int call = 9; call < 511; call++) {
            sea.blow(24, 2, 25, 0, 0, 20000);
        }
        CHECK.same("POTENTIAL", sea.many(7), 8L * 2000 * 24 * 502);
        long lost = 0;
        for (int i = 0; i < 8; i++) {
            CHECK.that("FAULT has the most", sea.lost(i, 2) > 20_000_000);
            for (int cause = 0; cause < 8; cause++) {
                lost += sea.lost(i, cause);
            }
        }
        CHECK.same("made or lost", sea.many(8) + lost, sea.many(7));
    }

    /** MONEY has room for the most that can be earned: crews keep 8 TURBINES going for a while. */
    private static void mostMoney() {
        CHECK.part("the greatest MONEY (promise 21)");
        WakeBanks sea = Seas.at(9999);
        sea.string(9999);
        for (int i = 0; i < 8; i++) {
            sea.turbine(0, 2 * i, i % 2);
        }
        long money = 0;
        for (int i = 0; i < 60; i++) {
            for (int turbine = 0; turbine < 8 && i % 3 == 0; turbine++) {
                // a STARTING one RUNS whatever is worn
                if (sea.ofTurbine(turbine, 0) == 2) {
                    Seas.startAgain(sea, turbine);
                }
            }
            money += 2L * sea.blow(1, 2, 25, 0, 200, 20000);
        }
        CHECK.same("MONEY", sea.many(9), money);
        CHECK.that("it is much", money > 1_500_000);
    }

    /** MONEY below 0: 20000 are NOMINATED for each HOUR, and nothing is DELIVERED. */
    private static void leastMoney() {
        CHECK.part("the least MONEY (promises 5, 21)");
        WakeBanks sea = new WakeBanks();
        int paid = 0;
        for (int i = 0; i < 250; i++) {
            sea.nominate(sea.many(3) + 1, 20000);
            sea.blow(1, 0, 0, 0, -50, 0);
            paid += 4000;
            CHECK.same("MONEY", sea.many(9), -paid);
        }
    }

    /** "A method that throws an exception changes nothing", also not for what comes later. */
    private static void refusedCallsChangeNothing() {
        CHECK.part("a method that throws changes nothing (promises 2 to 13)");
        Random random = new Random(7);
        for (int run = 0; run < 40; run++) {
            WakeBanks sea = Seas.at(1500, 10, 10, 10, 7, 12, 9);
            WakeBanks twin = Seas.at(1500, 10, 10, 10, 7, 12, 9);
            int refused = 0;
            for (int i = 0; i < 60; i++) {
                int[] a = new int[6];
                for (int k = 0; k < 6; k++) {
                    a[k] = random.nextInt(8) - 2;
                }
                a[2] = random.nextInt(36) - 3;
                a[5] = random.nextInt(4) == 0 ? 20001 : 20000 - random.nextInt(19000);
                int which = random.nextInt(12);
                if (throwsIn(twin, which, a)) {
                    refused++;
                    // the twin alone got this call: from now on both must answer alike
                } else {
                    CHECK.that("the same call is taken", !throwsIn(sea, which, a));
                }
                CHECK.same("digest", twin.digest(), sea.digest());
            }
            sea.blow(24, 0, 10, 0, 40, 20000);
            twin.blow(24, 0, 10, 0, 40, 20000);
            CHECK.that("all is the same", Picture.of(sea).equals(Picture.of(twin)));
            CHECK.same("FLOOR", twin.floor(-51), sea.floor(-51));
            CHECK.that("some calls were refused", refused > 10);
        }
    }

    private static boolean throwsIn(WakeBanks sea, int which, int[] a) {
        try {
            switch (which) {
                case 0 -> sea.string(100 * a[0]);
                case 1 -> sea.turbine(4 * a[0], 4 * a[1], a[3]);
                case 2 -> sea.vessel(5 * a[0]);
                case 3 -> sea.nominate(sea.many(3) + 5 * a[0], a[5]);
                case 4 -> sea.turn(a[0], a[1]);
                case 5 -> sea.call(a[0], a[1] > 1);
                case 6 -> sea.floor(11 * a[0]);
                case 7 -> sea.sail(a[0], a[1]);
                case 8 -> sea.lock(a[0], a[1] > 0);
                case 9 -> sea.climb(a[0], a[1]);
                case 10 -> sea.down(a[0]);
                default -> sea.blow(a[0], a[1], a[2], 10 * a[3], 30 * a[4], a[5]);
            }
            return false;
        } catch (IllegalArgumentException | IllegalStateException | IndexOutOfBoundsException e) {
            return true;
        }
    }

    /** "what would be (nothing is changed)", and what one asks, at every edge of a row. */
    private static void askingChangesNothing() {
        CHECK.part("asking changes nothing (promises 14 to 26)");
        WakeBanks asked = Seas.at(1500, 10, 10, 10, 7, 12, 9);
        WakeBanks other = Seas.at(1500, 10, 10, 10, 7, 12, 9);
        for (int i = 0; i < 150; i++) {
            int speed = 3 + i * 7 % 23;
            CHECK.same("blow", asked.blow(1, i % 8, speed, 0, 20, 20000),
                    other.blow(1, i % 8, speed, 0, 20, 20000));
            String before = Picture.of(asked);
            CHECK.that("asked twice", before.equals(Picture.of(asked)));
        }
        CHECK.that("the same sea", Picture.of(asked).equals(Picture.of(other)));
    }

    /** Promise 1: what one object is told no other one knows. */
    private static void objectsAreApart() {
        CHECK.part("promise 1: objects are apart");
        WakeBanks first = new WakeBanks();
        WakeBanks second = new WakeBanks();
        String before = Picture.of(second);
        first.string(100);
        first.turbine(0, 0, 0);
        first.vessel(5);
        first.nominate(1, 5);
        first.floor(50);
        first.blow(24, 1, 25, 60, 200, 0);
        CHECK.that("nothing of it", before.equals(Picture.of(second)));
        CHECK.same("FLOOR", second.floor(-51), -51);
        CHECK.same("its first STRING", second.string(9999), 0);
    }
}
