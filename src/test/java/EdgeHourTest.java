/** The edges of promise 6, blow: its arguments, POWER, and steps 1 and 2 of an HOUR. */
public final class EdgeHourTest {
    private static final Check CHECK = new Check();
    private static final int MIN = Integer.MIN_VALUE;
    private static final int MAX = Integer.MAX_VALUE;

    private EdgeHourTest() {
    }

    public static void main(String[] args) {
        arguments();
        smallestAndGreatest();
        sumOfHours();
        powers();
        hourIsMoreFirst();
        runningAndPrice();
        stoppedOfAPrice();
        startingRuns();
        stoppedByItself();
        stoppedByACall();
        runningAndSpeed();
        gearAtItsLimit();
        pitchAtItsLimit();
        bladesAtTheirLimit();
        smallestPart();
        firstThatApplies();
        faultedAndLockedStay();
        oneChangeAnHour();
        windsOfAll();
        statesAsTheyAreThen();
        noneIsLost();
        lossByWake();
        causeOfOneThatStands();
        lossByTurn();
        exactlyOneCause();
        CHECK.end("EdgeHourTest");
    }

    /** Promise 6: "if hours is not 1 to 24, sector not 0 to 7, speed not 0 to 30, ..". */
    private static void arguments() {
        CHECK.part("promise 6: arguments");
        WakeBanks sea = Seas.one();
        int[] good = {1, 0, 10, 0, 0, 20000};
        int[][] bad = {
            {0, 25, -1, MIN, MAX}, {-1, 8, MIN, MAX}, {-1, 31, MIN, MAX}, {-1, 61, MIN, MAX},
            {-51, 201, MIN, MAX}, {-1, 20001, MIN, MAX},
        };
        for (int which = 0; which < 6; which++) {
            for (int value : bad[which]) {
                int[] a = good.clone();
                a[which] = value;
                CHECK.refused(sea, IllegalArgumentException.class,
                        () -> sea.blow(a[0], a[1], a[2], a[3], a[4], a[5]));
            }
        }
        CHECK.same("no HOUR came", sea.many(3), 0);
    }

    /** Promise 6: the smallest and the greatest of each argument are taken. */
    private static void smallestAndGreatest() {
        CHECK.part("promise 6: the smallest and the greatest");
        int[] good = {1, 0, 10, 0, 0, 20000};
        int[][] ends = {{1, 24}, {0, 7}, {0, 30}, {0, 60}, {-50, 200}, {0, 20000}};
        int[][] due = {{1000, 24000}, {1000, 1000}, {0, 0}, {1000, 1000}, {1000, 1000}, {0, 1000}};
        for (int which = 0; which < 6; which++) {
            for (int end = 0; end < 2; end++) {
                int[] a = good.clone();
                a[which] = ends[which][end];
                WakeBanks sea = Seas.one();
                CHECK.same("argument " + which + ": " + a[which],
                        sea.blow(a[0], a[1], a[2], a[3], a[4], a[5]), due[which][end]);
                CHECK.same("HOUR", sea.many(3), a[0]);
            }
        }
    }

    /** Promise 6: "Returns what was DELIVERED in them", of 1 HOUR and of 24, one like the other. */
    private static void sumOfHours() {
        CHECK.part("promise 6: what was DELIVERED in them");
        for (int hours = 1; hours <= 24; hours++) {
            WakeBanks sea = Seas.apart(900, 2);
            WakeBanks single = Seas.apart(900, 2);
            int sum = 0;
            for (int i = 0; i < hours; i++) {
                sum += single.blow(1, 2, 12, 3, -7, 850);
            }
            CHECK.same("DELIVERED", sea.blow(hours, 2, 12, 3, -7, 850), sum);
            CHECK.that("as one by one", Picture.of(sea).equals(Picture.of(single)));
            CHECK.same("in the latest HOUR alone", sea.many(13), single.many(13));
            CHECK.same("HOUR", sea.many(3), hours);
        }
    }

    /** Section 3: "0 below 4 and above 25; otherwise v times v times v, but 2000 at most". */
    private static void powers() {
        CHECK.part("promise 6: POWER");
        for (int speed = 0; speed <= 30; speed++) {
            int due = speed < 4 || speed > 25 ? 0 : speed > 12 ? 2000 : speed * speed * speed;
            WakeBanks sea = Seas.starting();
            CHECK.same("at " + speed, Seas.hour(sea, speed), due);
            CHECK.same("POTENTIAL at " + speed, sea.many(7), due);
        }
        CHECK.same("3", Seas.hour(Seas.one(), 3), 0);
        CHECK.same("4", Seas.hour(Seas.one(), 4), 64);
        CHECK.same("12", Seas.hour(Seas.one(), 12), 1728);
        CHECK.same("13", Seas.hour(Seas.one(), 13), 2000);
        CHECK.same("25", Seas.hour(Seas.one(), 25), 2000);
        CHECK.same("26", Seas.hour(Seas.one(), 26), 0);
    }

    /** Section 3: "HOUR is 1 more first": what is NOMINATED for it is due in it. */
    private static void hourIsMoreFirst() {
        CHECK.part("promise 6: HOUR is 1 more first");
        WakeBanks sea = Seas.one();
        sea.nominate(1, 0);
        Seas.hour(sea, 10);
        CHECK.same("HOUR", sea.many(3), 1);
        CHECK.same("paid", sea.many(9), -200);
        sea.nominate(3, 0);
        Seas.hour(sea, 10);
        CHECK.same("not yet", sea.many(9), -200);
        Seas.hour(sea, 10);
        CHECK.same("paid", sea.many(9), -400);
    }

    private static void settles(WakeBanks sea, int speed, int price, int state, int stoppedBy) {
        sea.blow(1, 2, speed, 0, price, 20000);
        String at = " at SPEED " + speed + ", PRICE " + price;
        CHECK.same("STATE" + at, sea.ofTurbine(0, 0), state);
        CHECK.same("STOPPED by" + at, sea.ofTurbine(0, 9), stoppedBy);
    }

    private static WakeBanks withFloor(WakeBanks sea, int floor) {
        sea.floor(floor);
        return sea;
    }

    /** Step 1: "RUNNING, and PRICE is below the FLOOR: STOPPED of a price". */
    private static void runningAndPrice() {
        CHECK.part("promise 6, step 1: RUNNING, and PRICE is below the FLOOR");
        settles(withFloor(Seas.one(), 10), 10, 9, 0, 2);
        settles(withFloor(Seas.one(), 10), 10, 10, 2, 0);
        settles(withFloor(Seas.one(), 10), 10, 11, 2, 0);
        settles(withFloor(Seas.one(), 50), 10, 49, 0, 2);
        settles(withFloor(Seas.one(), 50), 10, 50, 2, 0);
        settles(withFloor(Seas.one(), -49), 10, -50, 0, 2);
        settles(withFloor(Seas.one(), -50), 10, -50, 2, 0);
        settles(withFloor(Seas.one(), -51), 10, -50, 2, 0);
        settles(withFloor(Seas.one(), 0), 10, -1, 0, 2);
        settles(withFloor(Seas.one(), 0), 10, 0, 2, 0);
    }

    /** Step 1: "STOPPED of a price, and PRICE is not below it: STARTING", in any SPEED. */
    private static void stoppedOfAPrice() {
        CHECK.part("promise 6, step 1: STOPPED of a price");
        settles(Seas.stoppedOfPrice(), 10, 9, 0, 2);
        settles(Seas.stoppedOfPrice(), 10, 10, 1, 0);
        settles(Seas.stoppedOfPrice(), 0, 10, 1, 0);
        settles(Seas.stoppedOfPrice(), 30, 200, 1, 0);
        settles(withFloor(Seas.stoppedOfPrice(), 9), 10, 9, 1, 0);
        settles(withFloor(Seas.stoppedOfPrice(), -51), 10, -50, 1, 0);
        settles(withFloor(Seas.stoppedOfPrice(), 11), 10, 10, 0, 2);
    }

    /** Step 1: "STARTING: RUNNING", in any SPEED, at any PRICE, whatever is worn. */
    private static void startingRuns() {
        CHECK.part("promise 6, step 1: STARTING");
        for (int speed = 0; speed <= 30; speed++) {
            settles(Seas.starting(), speed, 0, 2, 0);
        }
        settles(withFloor(Seas.starting(), 50), 10, -50, 2, 0);
        WakeBanks worn = Seas.worn();
        Seas.startAgain(worn, 0);
        settles(worn, 10, 0, 2, 0);
    }

    /**
     * Step 1: "STOPPED by itself (not by a call, or of a price): STARTING, if SPEED is 4 to
     * 22", whatever the PRICE is.
     */
    private static void stoppedByItself() {
        CHECK.part("promise 6, step 1: STOPPED by itself");
        for (int speed = 0; speed <= 30; speed++) {
            boolean is = speed >= 4 && speed <= 22;
            settles(Seas.stoppedByItself(), speed, 0, is ? 1 : 0, 0);
        }
        settles(withFloor(Seas.stoppedByItself(), 50), 4, -50, 1, 0);
        WakeBanks unlocked = Seas.locked();
        unlocked.lock(0, false);
        settles(unlocked, 23, 0, 0, 0);
        settles(unlocked, 22, 0, 1, 0);
    }

    /** Step 1: one STOPPED by a call stays so: nothing applies to it. */
    private static void stoppedByACall() {
        CHECK.part("promise 6, step 1: STOPPED by a call");
        for (int speed = 0; speed <= 30; speed++) {
            settles(Seas.stoppedByCall(), speed, 0, 0, 1);
        }
        settles(withFloor(Seas.stoppedByCall(), 50), 10, -50, 0, 1);
        WakeBanks both = Seas.stoppedOfPrice();
        both.call(0, false);
        settles(both, 10, 200, 0, 1);
    }

    /** Step 1: "RUNNING: STOPPED by itself, if SPEED is below 3, or above 25". */
    private static void runningAndSpeed() {
        CHECK.part("promise 6, step 1: RUNNING, and SPEED");
        for (int speed = 0; speed <= 30; speed++) {
            boolean is = speed >= 3 && speed <= 25;
            settles(Seas.one(), speed, 0, is ? 2 : 0, 0);
        }
    }

    /** The HOUR in which it RUNS with this WEAR, then that in which the LIMIT is reached. */
    private static void faultsAt(WakeBanks sea, int part, int limit) {
        CHECK.same("WEAR", sea.wear(0, part), limit - 1);
        settles(sea, 10, 0, 2, 0);
        CHECK.same("no CAUSE", sea.ofTurbine(0, 7), -1);
        CHECK.same("WEAR", sea.wear(0, part), limit);
        settles(sea, 10, 0, 3, 0);
        CHECK.same("CAUSE", sea.ofTurbine(0, 7), part);
        CHECK.same("it wears no more", sea.wear(0, part), limit);
        CHECK.same("FAULTED ones", sea.many(5), 1);
    }

    /** Step 1: "FAULTED, if a PART has a WEAR of its LIMIT or more (GEAR 150 ..". */
    private static void gearAtItsLimit() {
        CHECK.part("promise 6, step 1: GEAR at 149 and 150");
        WakeBanks sea = Seas.one();
        Seas.hours(sea, 74, 13);
        Seas.hour(sea, 12);
        faultsAt(sea, 0, 150);
    }

    /** Step 1: ".. PITCH 120 ..". */
    private static void pitchAtItsLimit() {
        CHECK.part("promise 6, step 1: PITCH at 119 and 120");
        WakeBanks sea = Seas.one();
        Seas.hours(sea, 117, 10);
        faultsAt(sea, 1, 120);
    }

    /** Step 1: ".. BLADES 200)", also far beyond. */
    private static void bladesAtTheirLimit() {
        CHECK.part("promise 6, step 1: BLADES at 199 and 200");
        WakeBanks sea = Seas.one();
        sea.turn(0, 2);
        Seas.hours(sea, 99, 10);
        sea.turn(0, -1);
        Seas.hour(sea, 10);
        faultsAt(sea, 2, 200);
        WakeBanks beyond = Seas.worn();
        CHECK.same("BLADES", beyond.wear(0, 2), 5 * 48);
        settles(beyond, 10, 0, 3, 0);
        CHECK.same("CAUSE", beyond.ofTurbine(0, 7), 2);
    }

    private static WakeBanks wornTogether(int hours, int one, int other) {
        WakeBanks sea = Seas.one();
        sea.turn(0, 2);
        for (int i = 0; i < hours; i++) {
            Seas.hourFromStart(sea, i % 2 == 0 ? one : other);
        }
        return sea;
    }

    private static void smallest(WakeBanks sea, boolean gear, boolean pitch, int due) {
        CHECK.same("GEAR is worn", sea.wear(0, 0) >= 150 ? 1 : 0, gear ? 1 : 0);
        CHECK.same("PITCH is worn", sea.wear(0, 1) >= 120 ? 1 : 0, pitch ? 1 : 0);
        CHECK.that("BLADES are worn", sea.wear(0, 2) >= 200);
        settles(sea, 10, 0, 3, 0);
        CHECK.same("CAUSE", sea.ofTurbine(0, 7), due);
    }

    /** Step 1: "of several the smallest PART is the CAUSE". */
    private static void smallestPart() {
        CHECK.part("promise 6, step 1: of several the smallest PART");
        smallest(wornTogether(100, 14, 9), true, true, 0);
        smallest(wornTogether(60, 14, 9), false, true, 1);
        smallest(wornTogether(101, 13, 13), true, false, 0);
        smallest(wornTogether(100, 10, 10), false, false, 2);
    }

    /** Step 1: "the first of these that applies". */
    private static void firstThatApplies() {
        CHECK.part("promise 6, step 1: the first of these that applies");
        settles(withFloor(Seas.one(), 10), 26, 9, 0, 2);
        settles(withFloor(Seas.one(), 10), 2, 9, 0, 2);
        settles(withFloor(Seas.worn(), 10), 10, 9, 0, 2);
        settles(withFloor(Seas.worn(), 10), 10, 10, 3, 0);
        settles(Seas.worn(), 2, 0, 0, 0);
        settles(Seas.worn(), 3, 0, 3, 0);
        settles(Seas.worn(), 25, 0, 3, 0);
        settles(Seas.worn(), 26, 0, 0, 0);
    }

    /** Step 1: nothing applies to one that is FAULTED or LOCKED. */
    private static void faultedAndLockedStay() {
        CHECK.part("promise 6, step 1: FAULTED, LOCKED");
        int[][] speedAndPrice = {{0, 0}, {3, 0}, {10, 0}, {25, -50}, {30, 200}};
        for (int[] row : speedAndPrice) {
            settles(withFloor(Seas.faulted(), 10), row[0], row[1], 3, 0);
            settles(withFloor(Seas.locked(), 10), row[0], row[1], 4, 0);
        }
    }

    /** Step 1: an HOUR changes a STATE but once. */
    private static void oneChangeAnHour() {
        CHECK.part("promise 6, step 1: one change in an HOUR");
        WakeBanks sea = Seas.stoppedByItself();
        settles(sea, 10, 0, 1, 0);
        settles(sea, 10, 0, 2, 0);
        WakeBanks cheap = Seas.stoppedOfPrice();
        settles(cheap, 10, 10, 1, 0);
        settles(cheap, 10, 9, 2, 0);
        settles(cheap, 10, 9, 0, 2);
        WakeBanks storm = Seas.starting();
        settles(storm, 30, 0, 2, 0);
        settles(storm, 30, 0, 0, 0);
    }

    /** Step 2: "WINDS of all (also of those that do not RUN)". */
    private static void windsOfAll() {
        CHECK.part("promise 6, step 2: WINDS of all");
        WakeBanks[] seas = {
            Seas.one(), Seas.starting(), Seas.stoppedByItself(), Seas.stoppedByCall(),
            Seas.stoppedOfPrice(), Seas.faulted(), Seas.locked(),
        };
        for (WakeBanks sea : seas) {
            Seas.hour(sea, 17);
            CHECK.same("WIND", sea.ofTurbine(0, 2), 17);
            Seas.hour(sea, 0);
            CHECK.same("WIND", sea.ofTurbine(0, 2), 0);
        }
        WakeBanks told = Seas.one();
        Seas.hour(told, 17);
        told.turbine(0, 0, 0);
        CHECK.same("none of one that was told since", told.ofTurbine(1, 2), 0);
        CHECK.same("nothing DELIVERED by it", told.ofTurbine(1, 3), 0);
    }

    /** The second one is at ALONG 1 of the first one in SECTOR 0. */
    private static WakeBanks close() {
        return Seas.at(9999, 10, 10, 10, 9);
    }

    /** Step 2: "by the STATES as they are then", after step 1. */
    private static void statesAsTheyAreThen() {
        CHECK.part("promise 6, step 2: the STATES as they are then");
        WakeBanks sea = close();
        sea.call(1, false);
        sea.floor(10);
        sea.blow(1, 0, 10, 0, 9, 20000);
        CHECK.same("it STOPPED in this HOUR", sea.ofTurbine(1, 2), 10);
        sea.blow(1, 0, 10, 0, 10, 20000);
        CHECK.same("STARTING", sea.ofTurbine(1, 2), 10);
        sea.blow(1, 0, 10, 0, 10, 20000);
        CHECK.same("it RUNS from this HOUR on", sea.ofTurbine(1, 2), 6);
        WakeBanks storm = close();
        storm.blow(1, 0, 26, 0, 0, 20000);
        CHECK.same("all STOPPED by themselves", storm.ofTurbine(1, 2), 26);
        WakeBanks later = Seas.at(9999, 10, 9, 10, 10);
        Seas.startAgain(later, 1);
        later.blow(1, 0, 10, 0, 0, 20000);
        CHECK.same("one with a greater number, too", later.ofTurbine(0, 2), 6);
    }

    /** Step 2: "(less than 0: none is lost, and the POWER is no more than POTENTIAL)". */
    private static void noneIsLost() {
        CHECK.part("promise 6, step 2: more POWER in the WAKE");
        int[] speeds = {26, 27, 30};
        for (int speed : speeds) {
            WakeBanks sea = close();
            Seas.startAgain(sea, 0);
            Seas.startAgain(sea, 1);
            CHECK.same("blow", sea.blow(1, 0, speed, 0, 0, 20000), 0);
            CHECK.that("it RUNS in less wind", sea.ofTurbine(1, 2) <= 25);
            CHECK.same("POTENTIAL", sea.many(7), 0);
            for (int cause = 0; cause < 8; cause++) {
                CHECK.same("lost", sea.lost(1, cause), 0);
            }
            CHECK.same("DELIVERED", sea.ofTurbine(1, 3), 0);
        }
    }

    /** Step 2: "0 WAKE: POTENTIAL less POWER of its WIND", with the edges of POWER. */
    private static void lossByWake() {
        CHECK.part("promise 6, step 2: WAKE");
        int[][] speedWindLost = {
            {25, 15, 0}, {22, 13, 0}, {21, 12, 272}, {14, 8, 2000 - 512}, {7, 4, 343 - 64},
            {6, 3, 216}, {4, 2, 64}, {3, 1, 0},
        };
        for (int[] row : speedWindLost) {
            WakeBanks sea = close();
            sea.blow(1, 0, row[0], 0, 0, 20000);
            CHECK.same("WIND at " + row[0], sea.ofTurbine(1, 2), row[1]);
            CHECK.same("lost at " + row[0], sea.lost(1, 0), row[2]);
            CHECK.same("of the first one", sea.lost(0, 0), 0);
        }
    }

    /** Step 2: "If it does not RUN: all that is left: 1 STATE .., 2 FAULT, 3 LOCK, 4 CALL ..". */
    private static void causeOfOneThatStands() {
        CHECK.part("promise 6, step 2: one that does not RUN");
        lostTo(Seas.stoppedByItself(), 23, 0, 1, 2000);
        lostTo(Seas.stoppedByItself(), 10, 0, 1, 1000);
        lostTo(Seas.faulted(), 10, 0, 2, 1000);
        lostTo(Seas.locked(), 10, 0, 3, 1000);
        lostTo(Seas.stoppedByCall(), 10, 0, 4, 1000);
        lostTo(Seas.stoppedOfPrice(), 10, 9, 4, 1000);
        lostTo(Seas.stoppedOfPrice(), 10, 10, 1, 1000);
        lostTo(Seas.stoppedByItself(), 3, 0, 1, 0);
        WakeBanks inWake = close();
        inWake.call(1, false);
        inWake.turn(1, 2);
        inWake.blow(1, 0, 10, 0, 0, 20000);
        CHECK.same("WAKE is ahead", inWake.lost(1, 0), 784);
        CHECK.same("what is left", inWake.lost(1, 4), 216);
        CHECK.same("no TURN", inWake.lost(1, 5), 0);
    }

    private static void lostTo(WakeBanks sea, int speed, int price, int cause, int much) {
        int[] before = new int[8];
        for (int i = 0; i < 8; i++) {
            before[i] = sea.lost(0, i);
        }
        CHECK.same("blow", sea.blow(1, 2, speed, 0, price, 20000), 0);
        for (int i = 0; i < 8; i++) {
            CHECK.same("lost to " + i + " of " + cause, sea.lost(0, i) - before[i],
                    i == cause ? much : 0);
        }
    }

    /** Step 2: "3 times the TURN times the TURN hundredths of what is left (cut)". */
    private static void lossByTurn() {
        CHECK.part("promise 6, step 2: TURN");
        int[][] speedTurnLost = {
            {4, 1, 1}, {4, -1, 1}, {4, 2, 7}, {4, -2, 7}, {5, 1, 3}, {5, 2, 15}, {10, 0, 0},
            {10, -1, 30}, {10, 2, 120}, {11, 1, 39}, {11, -2, 159}, {25, 2, 240}, {3, 2, 0},
        };
        for (int[] row : speedTurnLost) {
            WakeBanks sea = Seas.one();
            sea.turn(0, row[1]);
            int could = row[0] < 4 ? 0 : Math.min(2000, row[0] * row[0] * row[0]);
            CHECK.same("blow", Seas.hour(sea, row[0]), could - row[2]);
            CHECK.same("lost at " + row[0] + ", TURN " + row[1], sea.lost(0, 5), row[2]);
        }
        WakeBanks inWake = close();
        inWake.turn(1, -2);
        inWake.blow(1, 0, 10, 0, 0, 20000);
        CHECK.same("of what the WAKE leaves", inWake.lost(1, 5), 25);
    }

    /** Step 2: "What is not made goes to exactly one CAUSE each". */
    private static void exactlyOneCause() {
        CHECK.part("promise 6, step 2: exactly one CAUSE each");
        WakeBanks sea = Seas.at(2500, 10, 10, 10, 9, 10, 8, 11, 7, 9, 6);
        sea.turn(0, 1);
        sea.turn(3, -2);
        sea.call(2, false);
        int[] speeds = {0, 3, 4, 10, 25, 26, 30, 22, 13, 7};
        int could = 0;
        for (int i = 0; i < 120; i++) {
            int speed = speeds[i % 10];
            could += speed < 4 || speed > 25 ? 0 : Math.min(2000, speed * speed * speed);
            sea.blow(1, i % 8, speed, 0, 0, i % 3 == 0 ? 1700 : 20000);
        }
        CHECK.same("POTENTIAL", sea.many(7), 5 * could);
        int lost = 0;
        for (int turbine = 0; turbine < 5; turbine++) {
            for (int cause = 0; cause < 8; cause++) {
                CHECK.that("not below 0", sea.lost(turbine, cause) >= 0);
                lost += sea.lost(turbine, cause);
            }
        }
        CHECK.same("made or lost", sea.many(8) + lost, sea.many(7));
    }
}
