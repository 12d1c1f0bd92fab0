import java.math.BigInteger;

/** The edges that promises 23 to 26 name: what would be. */
public final class EdgeWouldTest {
    private static final Check CHECK = new Check();
    private static final int MIN = Integer.MIN_VALUE;
    private static final int MAX = Integer.MAX_VALUE;

    private EdgeWouldTest() {
    }

    public static void main(String[] args) {
        hoursThatWouldBe();
        wouldWithoutAnHour();
        wouldWithItsPriceAndOrder();
        wouldPassTheLimits();
        wouldWithItsStrings();
        wouldWithItsExtremes();
        bestTurnOfNoTurbine();
        bestTurnWithoutAnHour();
        smallestWithoutItsSign();
        thenTheNegativeOne();
        mostOfAllTogether();
        bestTurnOfOneThatStands();
        placeOfNone();
        placeAmongEight();
        placeIsFree();
        placeOfTheSmallestNumber();
        placeWithoutState();
        placeWithoutAString();
        placeAtTheEdgeOfAWake();
        placeInACrowd();
        digestOfNothing();
        digestWrapsAround();
        digestOfEachRow();
        CHECK.end("EdgeWouldTest");
    }

    /** Promise 23: "if hours is not 1 to 24". */
    private static void hoursThatWouldBe() {
        CHECK.part("promise 23: HOURS");
        WakeBanks sea = Seas.one();
        Seas.hour(sea, 10);
        CHECK.refused(sea, IllegalArgumentException.class, () -> sea.wouldDeliver(0),
                () -> sea.wouldDeliver(25), () -> sea.wouldDeliver(-1),
                () -> sea.wouldDeliver(MIN), () -> sea.wouldDeliver(MAX));
        for (int hours = 1; hours <= 24; hours++) {
            CHECK.same("wouldDeliver " + hours, sea.wouldDeliver(hours), 1000 * hours);
        }
        CHECK.same("nothing is changed", sea.many(3), 1);
        CHECK.same("nothing is changed", sea.wear(0, 0), 1);
    }

    /** Promise 23: "HOURS like the latest one": till one came its SPEED is 0. */
    private static void wouldWithoutAnHour() {
        CHECK.part("promise 23: till an HOUR came");
        WakeBanks sea = Seas.one();
        CHECK.same("1", sea.wouldDeliver(1), 0);
        CHECK.same("24", sea.wouldDeliver(24), 0);
        CHECK.same("it RUNS still", sea.ofTurbine(0, 0), 2);
        CHECK.same("no TURBINE", new WakeBanks().wouldDeliver(24), 0);
        sea.blow(2, 2, 0, 0, 0, 20000);
        CHECK.same("calm", sea.wouldDeliver(24), 0);
    }

    /** Promise 23: "(its PRICE and ORDER, too)". */
    private static void wouldWithItsPriceAndOrder() {
        CHECK.part("promise 23: PRICE and ORDER");
        WakeBanks sea = Seas.one();
        sea.blow(1, 2, 10, 0, 10, 999);
        CHECK.same("ORDER", sea.wouldDeliver(3), 2997);
        sea.floor(10);
        CHECK.same("at the FLOOR", sea.wouldDeliver(3), 2997);
        sea.floor(11);
        CHECK.same("below the FLOOR", sea.wouldDeliver(3), 0);
        sea.floor(-51);
        sea.blow(1, 2, 10, 0, 10, 0);
        CHECK.same("ORDER 0", sea.wouldDeliver(24), 0);
    }

    /** Promise 23: in these HOURS a fault, a hot cable or a start comes as in HOURS that come. */
    private static void wouldPassTheLimits() {
        CHECK.part("promise 23: faults, HEAT, starts");
        WakeBanks pitch = Seas.one();
        Seas.hours(pitch, 116, 10);
        CHECK.same("PITCH", pitch.wear(0, 1), 118);
        CHECK.same("2 HOURS, then it is FAULTED", pitch.wouldDeliver(24), 2000);
        CHECK.same("1", pitch.wouldDeliver(1), 1000);
        CHECK.same("2", pitch.wouldDeliver(2), 2000);
        CHECK.same("3", pitch.wouldDeliver(3), 2000);
        CHECK.same("not FAULTED", pitch.many(5), 0);
        WakeBanks starting = Seas.one();
        Seas.hours(starting, 2, 26);
        Seas.hour(starting, 22);
        CHECK.same("STARTING", starting.wouldDeliver(1), 2000);
        WakeBanks slow = Seas.one();
        Seas.hours(slow, 2, 26);
        slow.blow(1, 2, 23, 0, 0, 20000);
        CHECK.same("too much wind to start", slow.wouldDeliver(24), 0);
        WakeBanks hot = Seas.apart(100, 1);
        Seas.hour(hot, 10);
        CHECK.same("HEAT 25, then 43", hot.wouldDeliver(2), 98 + 96);
        WakeBanks nominated = Seas.one();
        nominated.nominate(2, 5);
        Seas.hour(nominated, 10);
        nominated.wouldDeliver(24);
        CHECK.same("it is to come still", nominated.many(10), 1);
        CHECK.same("MONEY", nominated.many(9), 0);
    }

    /** Promise 23: each TURBINE is on its STRING then, too. */
    private static void wouldWithItsStrings() {
        CHECK.part("promise 23: STRINGS");
        WakeBanks sea = Seas.at(9999);
        sea.string(100);
        sea.turbine(0, 0, 1);
        sea.turbine(0, 2, 0);
        Seas.hour(sea, 10);
        CHECK.same("HEAT 25 is a LIMIT of 98", sea.wouldDeliver(1), 1000 + 98);
        sea.turn(0, 2);
        CHECK.same("also of what is TURNED", sea.wouldDeliver(1), 1000 + 98);
    }

    /** Promise 23: a WIND that changes in these HOURS is put to the row of EXTREMES. */
    private static void wouldWithItsExtremes() {
        CHECK.part("promise 23: EXTREMES");
        WakeBanks sea = Seas.at(9999, 10, 10, 10, 9);
        sea.call(0, false);
        sea.turn(1, 2);
        Seas.hours(sea, 97, 10);
        sea.turn(1, 0);
        int[] speeds = {25, 16, 24};
        for (int speed : speeds) {
            sea.blow(1, 0, speed, 0, 0, 20000);
        }
        CHECK.same("EXTREMES", sea.ofTurbine(1, 6), 4);
        CHECK.same("BLADES", sea.wear(1, 2), 194);
        sea.call(0, true);
        // in the WAKE the WIND is 14: 16 and 24 are a CYCLE, its DAMAGE of 6 wears BLADES out
        CHECK.same("3", sea.wouldDeliver(3), 8000);
        CHECK.same("2", sea.wouldDeliver(2), 6000);
        CHECK.same("1", sea.wouldDeliver(1), 4000);
        CHECK.same("nothing is changed", sea.ofTurbine(1, 6), 4);
        CHECK.same("as it comes", sea.blow(3, 0, 24, 0, 0, 20000), 8000);
        CHECK.same("CAUSE", sea.ofTurbine(1, 7), 2);
    }

    /** Promise 24: "if there is no such TURBINE". */
    private static void bestTurnOfNoTurbine() {
        CHECK.part("promise 24: no such TURBINE");
        WakeBanks sea = Seas.apart(9999, 2);
        CHECK.refused(sea, IndexOutOfBoundsException.class, () -> sea.bestTurn(-1),
                () -> sea.bestTurn(2), () -> sea.bestTurn(7), () -> sea.bestTurn(8),
                () -> sea.bestTurn(MIN), () -> sea.bestTurn(MAX));
        Seas.hour(sea, 10);
        CHECK.same("the last one", sea.bestTurn(1), 0);
    }

    /** Promise 24: till an HOUR came, and in a storm, all TURNS are the same: 0 is the smallest. */
    private static void bestTurnWithoutAnHour() {
        CHECK.part("promise 24: nothing is DELIVERED");
        WakeBanks sea = Seas.at(9999, 10, 10, 10, 9);
        sea.turn(0, 2);
        CHECK.same("no HOUR", sea.bestTurn(0), 0);
        sea.blow(1, 0, 26, 0, 0, 20000);
        CHECK.same("a storm", sea.bestTurn(0), 0);
        WakeBanks order = Seas.at(9999, 10, 10, 10, 9);
        order.turn(0, -1);
        order.blow(1, 0, 10, 0, 0, 0);
        CHECK.same("ORDER 0", order.bestTurn(0), 0);
    }

    /** Promise 24: "of several the smallest without its sign". */
    private static void smallestWithoutItsSign() {
        CHECK.part("promise 24: the smallest without its sign");
        // with an ORDER of 100 each TURN delivers as much
        for (int turn = -2; turn <= 2; turn++) {
            WakeBanks sea = Seas.at(9999, 10, 10, 10, 9);
            sea.turn(0, turn);
            sea.blow(1, 0, 10, 0, 0, 100);
            CHECK.same("TURN " + turn, sea.bestTurn(0), 0);
        }
        // at the edge of the WAKE: TURNED by 1 it is out of it, and by 2, too; the ORDER is met
        WakeBanks edge = Seas.at(9999, 10, 10, 11, 9);
        edge.blow(1, 0, 10, 0, 0, 1800);
        CHECK.same("1, not 2", edge.bestTurn(0), 1);
        WakeBanks other = Seas.at(9999, 10, 10, 9, 9);
        other.blow(1, 0, 10, 0, 0, 1800);
        CHECK.same("-1, not -2", other.bestTurn(0), -1);
        // two at the edges: 2186 by 1 or -1, 2096 by 2 or -2
        WakeBanks both = Seas.at(9999, 10, 10, 9, 9, 11, 9);
        both.blow(1, 0, 10, 0, 0, 2000);
        CHECK.same("of -2, -1, 1 and 2", both.bestTurn(0), -1);
        // 2186 by 1, 2880 by 2, 2096 by -2, and less by 0 and -1
        WakeBanks three = Seas.at(9999, 10, 10, 10, 9, 11, 9);
        three.blow(1, 0, 10, 0, 0, 2050);
        CHECK.same("1 goes ahead of -2", three.bestTurn(0), 1);
    }

    /** Promise 24: "then the negative one". */
    private static void thenTheNegativeOne() {
        CHECK.part("promise 24: then the negative one");
        WakeBanks middle = Seas.at(9999, 10, 10, 10, 9);
        middle.blow(1, 0, 10, 0, 0, 20000);
        CHECK.same("2 and -2", middle.bestTurn(0), -2);
        WakeBanks both = Seas.at(9999, 10, 10, 9, 9, 11, 9);
        both.blow(1, 0, 10, 0, 0, 20000);
        CHECK.same("1 and -1", both.bestTurn(0), -1);
        both.turn(0, 1);
        CHECK.same("whatever it is now", both.bestTurn(0), -1);
        CHECK.same("nothing is changed", both.ofTurbine(0, 1), 1);
    }

    /** Promise 24: "most would be DELIVERED of all together", not of itself. */
    private static void mostOfAllTogether() {
        CHECK.part("promise 24: of all together");
        // ALONG 12 the DEFICIT is 6: 729 of 1000; by a TURN of 1 30 are lost, by 2 120
        WakeBanks gain = Seas.at(9999, 10, 15, 14, 3);
        gain.blow(1, 0, 10, 0, 0, 20000);
        CHECK.same("271 are won for 30", gain.bestTurn(0), 1);
        CHECK.same("none for the other one", gain.bestTurn(1), 0);
        WakeBanks dear = Seas.at(9999, 10, 15, 13, 3);
        dear.blow(1, 0, 10, 0, 0, 20000);
        CHECK.same("271 are won for 120", dear.bestTurn(0), 2);
        // at 13 the DEFICIT of 6 leaves 1728 of 2000; the TURN of 2 costs 240
        dear.blow(1, 0, 13, 0, 0, 20000);
        CHECK.same("272 are won for 240", dear.bestTurn(0), 2);
        // at 14 it leaves 2000: nothing is won
        dear.blow(1, 0, 14, 0, 0, 20000);
        CHECK.same("nothing is won", dear.bestTurn(0), 0);
    }

    /** Promise 24: one that would not RUN in that HOUR has no use of a TURN. */
    private static void bestTurnOfOneThatStands() {
        CHECK.part("promise 24: one that stands");
        WakeBanks sea = Seas.at(9999, 10, 10, 10, 9);
        sea.blow(1, 0, 10, 0, 0, 20000);
        CHECK.same("RUNNING", sea.bestTurn(0), -2);
        sea.call(0, false);
        CHECK.same("STOPPED", sea.bestTurn(0), 0);
        sea.call(0, true);
        CHECK.same("STARTING: it would RUN", sea.bestTurn(0), -2);
        sea.floor(1);
        CHECK.same("the other one would be stopped of a price", sea.bestTurn(0), 0);
        Seas.startAgain(sea, 1);
        CHECK.same("STARTING ones are not", sea.bestTurn(0), -2);
        sea.blow(1, 0, 10, 0, 0, 20000);
        CHECK.same("both would be stopped of a price", sea.bestTurn(0), 0);
    }

    /** Promise 25: a sea without TURBINES: each place is as good. */
    private static void placeOfNone() {
        CHECK.part("promise 25: no TURBINE");
        CHECK.same("no STRING", new WakeBanks().bestPlace(), 0);
        CHECK.same("a STRING", Seas.at(100).bestPlace(), 0);
    }

    /** Promise 25: "NONE, if there are 8". */
    private static void placeAmongEight() {
        CHECK.part("promise 25: 8 TURBINES");
        WakeBanks sea = Seas.at(9999);
        for (int i = 0; i < 8; i++) {
            CHECK.that("there is one", sea.bestPlace() >= 0);
            sea.turbine(19, 2 * i, 0);
        }
        CHECK.same("NONE", sea.bestPlace(), -1);
    }

    /** Promise 25: "the free place": told there, it is never refused. */
    private static void placeIsFree() {
        CHECK.part("promise 25: free");
        WakeBanks sea = Seas.at(9999);
        for (int i = 0; i < 8; i++) {
            int place = sea.bestPlace();
            CHECK.that("a place", place >= 0 && place < 400);
            CHECK.same("told", sea.turbine(place / 20, place % 20, 0), i);
        }
    }

    /** Promise 25: "20 times x, and y", "of several the smallest number". */
    private static void placeOfTheSmallestNumber() {
        CHECK.part("promise 25: the smallest number");
        // y 0 is free and behind (0, 13) by 13, which is out of its WAKE
        CHECK.same("ALONG 13", Seas.at(9999, 0, 13).bestPlace(), 0);
        // at (3, 5) ALONG and ACROSS are 7 and 3, and 10 and 4: just beside the WAKES
        CHECK.same("ALONG 12", Seas.at(9999, 0, 12).bestPlace(), 20 * 3 + 5);
        CHECK.same("no smaller one is in no WAKE", firstWithoutWakes(0, 12), 20 * 3 + 5);
        CHECK.same("the last corner", Seas.at(9999, 19, 19).bestPlace(), 0);
        CHECK.same("y, not x", Seas.at(9999, 0, 0).bestPlace(), 13);
    }

    /** Promise 25: "if all RAN and none was TURNED (cables and ORDERS aside)". */
    private static void placeWithoutState() {
        CHECK.part("promise 25: if all RAN and none was TURNED");
        int due = Seas.at(9999, 3, 3, 9, 12).bestPlace();
        WakeBanks sea = Seas.at(100, 3, 3, 9, 12);
        sea.turn(0, -2);
        sea.turn(1, 2);
        CHECK.same("TURNED, a small cable", sea.bestPlace(), due);
        sea.blow(3, 6, 30, 60, -50, 0);
        CHECK.same("STOPPED by themselves, ORDER 0, another SECTOR", sea.bestPlace(), due);
        sea.call(0, false);
        CHECK.same("STOPPED by a call", sea.bestPlace(), due);
        sea.vessel(9);
        sea.sail(0, 1);
        sea.lock(0, true);
        CHECK.same("LOCKED", sea.bestPlace(), due);
        CHECK.same("nothing is changed", sea.many(0), 2);
    }

    /** Promise 25: "of a STRING of its own": there may be 3 already. */
    private static void placeWithoutAString() {
        CHECK.part("promise 25: a STRING of its own");
        WakeBanks sea = Seas.at(100, 0, 13);
        sea.string(100);
        sea.string(100);
        CHECK.same("of 3 STRINGS", sea.bestPlace(), 0);
        CHECK.same("nothing is told", sea.many(1), 3);
    }

    /** Promise 25: the place counts for itself and for those that would stand in its WAKE. */
    private static void placeAtTheEdgeOfAWake() {
        CHECK.part("promise 25: WAKES both ways");
        int[][] seas = {{10, 10}, {0, 6}, {6, 0}, {19, 0}, {0, 19}};
        for (int[] xy : seas) {
            WakeBanks sea = Seas.at(9999, xy);
            int place = sea.bestPlace();
            CHECK.same("told", sea.turbine(place / 20, place % 20, 0), 1);
            int made = 0;
            for (int sector = 0; sector < 8; sector++) {
                made += sea.blow(1, sector, 10, 0, 0, 20000);
                CHECK.same("no WAKE", sea.wake(0, 1) + sea.wake(1, 0), 0);
            }
            CHECK.same("all is made", made, 16000);
            CHECK.that("no smaller number is as good", place == firstWithoutWakes(xy[0], xy[1]));
        }
    }

    private static int firstWithoutWakes(int x, int y) {
        for (int place = 0; place < 400; place++) {
            if (place != 20 * x + y) {
                WakeBanks sea = Seas.at(9999, x, y, place / 20, place % 20);
                int wakes = 0;
                for (int sector = 0; sector < 8; sector++) {
                    sea.blow(1, sector, 10, 0, 0, 20000);
                    wakes += sea.wake(0, 1) + sea.wake(1, 0);
                }
                if (wakes == 0) {
                    return place;
                }
            }
        }
        return -1;
    }

    /** Promise 25: "of all together", "of several the smallest number", among 7 with WAKES. */
    private static void placeInACrowd() {
        CHECK.part("promise 25: of all together");
        int[][] seas = {
            {15, 9, 15, 0, 15, 17, 4, 14, 9, 19, 0, 11, 8, 2},
            {2, 3, 10, 19, 14, 15, 17, 1, 6, 5, 7, 1, 1, 11},
            {10, 7, 7, 2, 10, 9, 17, 12, 2, 18, 14, 0},
            {10, 17, 9, 16, 0, 1, 2, 18, 6, 12, 13, 9, 18, 6},
            {12, 16, 11, 6, 7, 15, 3, 7, 8, 3, 7, 12, 3, 9},
        };
        for (int[] xy : seas) {
            int best = -1;
            int most = -1;
            for (int place = 0; place < 400; place++) {
                int made = isIn(xy, place) ? -1 : madeWith(xy, place);
                if (made > most) {
                    most = made;
                    best = place;
                }
            }
            WakeBanks sea = Seas.at(9999);
            for (int i = 0; i < xy.length; i += 2) {
                sea.bestPlace();
                sea.turbine(xy[i], xy[i + 1], 0);
            }
            CHECK.same("place", sea.bestPlace(), best);
            CHECK.same("place, asked once more", sea.bestPlace(), best);
        }
    }

    private static boolean isIn(int[] xy, int place) {
        for (int i = 0; i < xy.length; i += 2) {
            if (20 * xy[i] + xy[i + 1] == place) {
                return true;
            }
        }
        return false;
    }

    private static int madeWith(int[] xy, int place) {
        WakeBanks sea = Seas.at(9999, xy);
        sea.string(9999);
        sea.turbine(place / 20, place % 20, 1);
        int made = 0;
        for (int sector = 0; sector < 8; sector++) {
            made += sea.blow(1, sector, 10, 0, 0, 20000);
        }
        return made;
    }

    private static long digestOf(long... numbers) {
        BigInteger d = BigInteger.valueOf(58176);
        for (long v : numbers) {
            d = d.multiply(BigInteger.valueOf(31)).add(BigInteger.valueOf(v));
        }
        // longValue keeps the lowest 64 bits, with their sign
        return d.longValue();
    }

    /** Promise 26: a sea without anything: 14 zeros, and what would be DELIVERED. */
    private static void digestOfNothing() {
        CHECK.part("promise 26: nothing is there");
        CHECK.same("digest", new WakeBanks().digest(), digestOf(new long[15]));
    }

    /** Promise 26: "wraps around as a 64-bit integer", with numbers below 0 in it, too. */
    private static void digestWrapsAround() {
        CHECK.part("promise 26: it wraps around");
        WakeBanks string = new WakeBanks();
        string.string(100);
        long[] one = new long[19];
        one[1] = 1;
        one[14] = 100;
        one[16] = 100;
        CHECK.same("a STRING", string.digest(), digestOf(one));
        WakeBanks vessel = new WakeBanks();
        vessel.vessel(5);
        CHECK.same("a VESSEL", vessel.digest(), digestOf(0, 0, 1, 0, 0, 0, 0, 0, 0, 0, 0, 0, 0, 0,
                -1, 0, -1, 0, 0, 0));
        WakeBanks paid = new WakeBanks();
        paid.nominate(1, 20000);
        paid.blow(1, 0, 0, 0, 0, 20000);
        CHECK.same("MONEY below 0", paid.digest(),
                digestOf(0, 0, 0, 1, 0, 0, 0, 0, 0, -4000, 0, 0, 0, 0, 0));
        boolean isBelow = false;
        boolean isAbove = false;
        WakeBanks sea = Seas.apart(9999, 2);
        for (int i = 0; i < 20; i++) {
            Seas.hour(sea, 10);
            isBelow |= sea.digest() < 0;
            isAbove |= sea.digest() > 0;
        }
        CHECK.that("both signs come", isBelow && isAbove);
    }

    /** Promise 26: the numbers in their order, of rows that are empty, too. */
    private static void digestOfEachRow() {
        CHECK.part("promise 26: the numbers in their order");
        WakeBanks sea = Seas.at(1500, 10, 10, 10, 9);
        CHECK.same("no HOUR, no EXTREMES", sea.digest(), digestOf(
                2, 1, 0, 0, 2, 0, 0, 0, 0, 0, 0, 0, 0, 0,
                2, 0, 0, 0, 0, 0, 0, -1, -1, 0, 0, 0, 0, 0, 0, 0, 0, 0, 0, 0, 0, 0, 0, 0,
                2, 0, 0, 0, 39, 0, 0, -1, -1, 0, 0, 0, 0, 0, 0, 0, 0, 0, 0, 0, 0, 39, 0, 0,
                1500, 0, 1500, 0, 0));
        sea.blow(1, 0, 10, 0, 50, 20000);
        // 1000 and 216; TURNED by 2 the first one leaves 880, and the other one makes 1000
        CHECK.same("an HOUR", sea.digest(), digestOf(
                2, 1, 0, 1, 2, 0, 0, 2000, 1216, 608, 0, 0, 0, 1216,
                2, 0, 10, 1000, 0, 0, 1, -1, -1, 0, 1, 3, 0, 0, 0, 0, 0, 0, 0, 0, 0, 10, 0, 0, -2,
                2, 0, 6, 216, 39, 0, 1, -1, -1, 0, 1, 3, 0, 784, 0, 0, 0, 0, 0, 0, 0, 6, 39, 0, 0,
                1500, 304, 1470, 1216, 3 * 1216));
        CHECK.same("bestTurn is in it: 1470, by the LIMIT", sea.bestTurn(0), -2);
    }
}
