/** Promises 23 to 26: what would be. */
public final class WouldTest {
    private static final Check CHECK = new Check();

    private WouldTest() {
    }

    public static void main(String[] args) {
        promise23();
        wouldGoThroughStates();
        promise24();
        bestTurnOfSeveral();
        promise25();
        placesByTrying();
        promise26();
        nothingIsChanged();
        CHECK.end("WouldTest");
    }

    private static WakeBanks row(int rating, int... places) {
        WakeBanks sea = new WakeBanks();
        sea.string(rating);
        for (int i = 0; i < places.length; i++) {
            sea.turbine(places[i] / 20, places[i] % 20, 0);
        }
        return sea;
    }

    private static void promise23() {
        CHECK.part("promise 23");
        WakeBanks sea = row(1500, 0, 10);
        CHECK.refused(sea, IllegalArgumentException.class, () -> sea.wouldDeliver(0),
                () -> sea.wouldDeliver(25), () -> sea.wouldDeliver(-1),
                () -> sea.wouldDeliver(Integer.MAX_VALUE));
        CHECK.same("no wind yet", sea.wouldDeliver(24), 0);
        sea.blow(1, 2, 20, 0, 40, 1450);
        CHECK.same("the ORDER, too", sea.wouldDeliver(1), 1450);
        // HEAT is 375, 647, 850: the LIMIT falls to 1463, then to 1436
        CHECK.same("as it gets hot", sea.wouldDeliver(2), 1450 + 1436);
        for (int hours = 1; hours <= 24; hours++) {
            WakeBanks same = row(1500, 0, 10);
            same.blow(1, 2, 20, 0, 40, 1450);
            CHECK.same("as it comes", sea.wouldDeliver(hours),
                    same.blow(hours, 2, 20, 0, 40, 1450));
        }
        sea.floor(41);
        CHECK.same("the PRICE, too", sea.wouldDeliver(5), 0);
        CHECK.same("HOUR", sea.many(3), 1);
    }

    private static void wouldGoThroughStates() {
        WakeBanks sea = row(9999, 0);
        for (int i = 0; i < 3; i++) {
            sea.blow(24, 2, 14, 0, 0, 20000);
        }
        CHECK.same("till it is FAULTED", sea.wouldDeliver(24), 3 * 2000);
        CHECK.same("it RUNS", sea.ofTurbine(0, 0), 2);
        sea.call(0, false);
        CHECK.same("STOPPED", sea.wouldDeliver(24), 0);
        sea.call(0, true);
        CHECK.same("STARTING: one HOUR more", sea.wouldDeliver(24), 3 * 2000);
        WakeBanks still = row(9999, 0);
        still.blow(1, 2, 26, 0, 0, 20000);
        still.blow(1, 2, 10, 0, 0, 20000);
        still.call(0, false);
        still.call(0, true);
        CHECK.same("STARTING RUNS", still.wouldDeliver(2), 2000);
        wouldBeAsItComes();
    }

    /** Worn ones with TURNS, many EXTREMES and WAKES: what would be is what then comes. */
    private static void wouldBeAsItComes() {
        int faulted = 0;
        for (int i = 0; i < 60; i++) {
            WakeBanks sea = row(1800, 10 * 20 + 10, 10 * 20 + 7);
            sea.string(2500);
            sea.turbine(12, 8, 1);
            sea.turn(0, i % 5 - 2);
            sea.turn(1, i % 3 - 1);
            for (int hour = 0; hour < 20 + i; hour++) {
                sea.blow(1, i % 4 == 0 ? 0 : 4, speedOf(hour), 0, 9, 20000);
            }
            int hours = 1 + i % 24;
            int would = sea.wouldDeliver(hours);
            int before = sea.many(5);
            CHECK.same("as it comes, " + i, would,
                    sea.blow(hours, i % 4 == 0 ? 0 : 4, speedOf(19 + i), 0, 9, 20000));
            faulted += sea.many(5) - before;
        }
        CHECK.that("some were FAULTED in these HOURS", faulted > 10);
    }

    private static int speedOf(int hour) {
        return hour % 2 == 0 ? 5 + hour % 13 : 24 - hour % 9;
    }

    private static void promise24() {
        CHECK.part("promise 24");
        WakeBanks sea = row(9999, 10 * 20 + 10, 11 * 20 + 6);
        CHECK.refused(sea, IndexOutOfBoundsException.class, () -> sea.bestTurn(-1),
                () -> sea.bestTurn(2), () -> sea.bestTurn(Integer.MAX_VALUE));
        CHECK.same("no wind yet", sea.bestTurn(0), 0);
        sea.blow(1, 0, 10, 0, 0, 20000);
        CHECK.same("the other one leaves the WAKE", sea.bestTurn(0), 2);
        CHECK.same("it wakes none", sea.bestTurn(1), 0);
        CHECK.same("nothing is changed", sea.ofTurbine(0, 1), 0);
        sea.turn(0, -2);
        CHECK.same("whatever it is now", sea.bestTurn(0), 2);
        sea.turn(1, 2);
        CHECK.same("whatever it is now", sea.bestTurn(1), 0);
        WakeBanks mirror = row(9999, 10 * 20 + 10, 9 * 20 + 6);
        mirror.blow(1, 0, 10, 0, 0, 20000);
        CHECK.same("to the other side", mirror.bestTurn(0), -2);
        mirror.blow(1, 0, 30, 0, 0, 20000);
        CHECK.same("all stop", mirror.bestTurn(0), 0);
    }

    private static void bestTurnOfSeveral() {
        WakeBanks sea = row(9999, 10 * 20 + 10, 12 * 20 + 6);
        sea.blow(1, 0, 10, 0, 0, 20000);
        CHECK.same("1 is enough", sea.bestTurn(0), 1);
        WakeBanks edge = row(9999, 10 * 20 + 10, 10 * 20 + 9);
        edge.blow(1, 0, 10, 0, 0, 20000);
        CHECK.same("of two the negative one", edge.bestTurn(0), -2);
        edge.blow(1, 0, 10, 0, 0, 500);
        CHECK.same("all the same by the ORDER", edge.bestTurn(0), 0);
        // two at the edges of the WAKE: by either TURN just one of them leaves it
        WakeBanks both = row(9999, 10 * 20 + 10, 9 * 20 + 9, 11 * 20 + 9);
        both.blow(1, 0, 10, 0, 0, 20000);
        CHECK.same("the negative one", both.bestTurn(0), -1);
        both.call(0, false);
        CHECK.same("it stands", both.bestTurn(0), 0);
        both.call(0, true);
        CHECK.same("it would RUN", both.bestTurn(0), -1);
        WakeBanks worn = row(9999, 10 * 20 + 10, 9 * 20 + 9);
        for (int i = 0; i < 3; i++) {
            worn.blow(24, 4, 14, 0, 0, 20000);
        }
        worn.blow(3, 4, 14, 0, 0, 20000);
        CHECK.same("it RUNS now", worn.ofTurbine(0, 0), 2);
        CHECK.same("it would be FAULTED", worn.bestTurn(0), 0);
    }

    private static void promise25() {
        CHECK.part("promise 25");
        CHECK.same("an empty sea", row(9999).bestPlace(), 0);
        CHECK.same("0 is not free", row(9999, 0).bestPlace(), 13);
        WakeBanks sea = row(100, 0);
        sea.turn(0, 2);
        sea.call(0, false);
        CHECK.same("as if it RAN, without TURN and LIMIT", sea.bestPlace(), 13);
        CHECK.same("there are 8", row(9999, 0, 1, 2, 3, 4, 5, 6, 7).bestPlace(), -1);
        CHECK.same("also far from each other",
                row(9999, 0, 19, 380, 399, 9, 389, 180, 199).bestPlace(), -1);
    }

    /** Finds the best place by telling each one, and letting an HOUR of each SECTOR come. */
    private static void placesByTrying() {
        int[][] seas = {
            {0}, {210}, {0, 19, 380, 399}, {105, 110, 115, 205, 210, 215, 305},
            {190, 191, 192, 209, 211, 229, 230}, {42, 84, 126, 168, 210, 252, 294},
            {7, 133, 277, 391}, {399, 398, 379}, {205, 214, 85, 325, 210, 5},
            // in these the SPEED, the WAKES among those that are there and each SECTOR count
            {309, 300, 317, 94, 199, 11, 162}, {43, 219, 295, 341, 125, 141, 31},
            {207, 142, 209, 58, 352, 280}, {217, 196, 1, 58, 132, 269, 366},
        };
        for (int i = 0; i < seas.length; i++) {
            WakeBanks sea = new WakeBanks();
            sea.string(9999);
            for (int place : seas[i]) {
                sea.bestPlace();
                sea.turbine(place / 20, place % 20, 0);
            }
            int due = tried(seas[i]);
            CHECK.same("sea " + i, sea.bestPlace(), due);
            CHECK.same("sea " + i + " again", sea.bestPlace(), due);
        }
    }

    private static int tried(int[] places) {
        int best = -1;
        int most = -1;
        for (int place = 0; place < 400; place++) {
            WakeBanks sea = row(9999, places);
            sea.string(9999);
            try {
                sea.turbine(place / 20, place % 20, 1);
            } catch (IllegalStateException e) {
                continue;
            }
            int made = 0;
            for (int sector = 0; sector < 8; sector++) {
                made += sea.blow(1, sector, 10, 0, 0, 20000);
            }
            if (made > most) {
                most = made;
                best = place;
            }
        }
        return best;
    }

    private static void promise26() {
        CHECK.part("promise 26");
        WakeBanks sea = row(1500, 10 * 20 + 10, 11 * 20 + 6, 3);
        CHECK.same("HOUR 0", sea.digest(), sum(sea));
        sea.string(300);
        sea.vessel(12);
        sea.vessel(30);
        sea.nominate(9, 70);
        sea.turn(1, -1);
        sea.blow(7, 0, 18, 3, 44, 3000);
        sea.blow(1, 1, 9, 3, 44, 3000);
        sea.blow(1, 0, 14, 3, -44, 3000);
        CHECK.same("digest", sea.digest(), sum(sea));
        sea.sail(1, 2);
        sea.lock(1, true);
        sea.climb(1, 2);
        sea.blow(2, 0, 17, 55, 44, 3000);
        CHECK.same("digest", sea.digest(), sum(sea));
        CHECK.same("again", sea.digest(), sum(sea));
        WakeBanks turned = row(9999, 10 * 20 + 10, 11 * 20 + 6);
        turned.blow(1, 0, 10, 0, 0, 20000);
        CHECK.same("bestTurn is in it", turned.bestTurn(0), 2);
        CHECK.same("digest", turned.digest(), sum(turned));
    }

    private static long sum(WakeBanks sea) {
        long d = 58176;
        for (int what = 0; what <= 13; what++) {
            d = d * 31 + sea.many(what);
        }
        for (int i = 0; i < sea.many(0); i++) {
            for (int what = 0; what <= 9; what++) {
                d = d * 31 + sea.ofTurbine(i, what);
            }
            for (int part = 0; part <= 2; part++) {
                d = d * 31 + sea.wear(i, part);
            }
            for (int cause = 0; cause <= 7; cause++) {
                d = d * 31 + sea.lost(i, cause);
            }
            for (int k = 0; k < sea.ofTurbine(i, 6); k++) {
                d = d * 31 + sea.extreme(i, k);
            }
            for (int other = 0; other < sea.many(0); other++) {
                d = d * 31 + sea.wake(i, other);
            }
            d = d * 31 + sea.bestTurn(i);
        }
        for (int i = 0; i < sea.many(1); i++) {
            for (int what = 0; what <= 3; what++) {
                d = d * 31 + sea.ofString(i, what);
            }
        }
        for (int i = 0; i < sea.many(2); i++) {
            for (int what = 0; what <= 4; what++) {
                d = d * 31 + sea.ofVessel(i, what);
            }
        }
        return d * 31 + sea.wouldDeliver(3);
    }

    private static void nothingIsChanged() {
        CHECK.part("promises 23 to 26, nothing is changed");
        WakeBanks asked = row(1500, 10 * 20 + 10, 11 * 20 + 6, 3);
        WakeBanks other = row(1500, 10 * 20 + 10, 11 * 20 + 6, 3);
        for (int i = 0; i < 40; i++) {
            CHECK.same("DELIVERED", asked.blow(2, i % 8, i * 7 % 31, 0, 20, 20000),
                    other.blow(2, i % 8, i * 7 % 31, 0, 20, 20000));
            asked.wouldDeliver(24);
            asked.bestTurn(1);
            asked.bestPlace();
            asked.digest();
        }
        CHECK.that("the same sea", Picture.of(asked).equals(Picture.of(other)));
    }
}
