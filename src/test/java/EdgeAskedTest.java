/** The edges that promises 14 to 22 name: what one asks. */
public final class EdgeAskedTest {
    private static final Check CHECK = new Check();
    private static final int MIN = Integer.MIN_VALUE;
    private static final int MAX = Integer.MAX_VALUE;

    private EdgeAskedTest() {
    }

    public static void main(String[] args) {
        ofTurbineArguments();
        ofTurbineAtFirst();
        ofTurbineInTheLatestHour();
        causeOnlyIfFaulted();
        lockerOnlyIfLocked();
        stoppedBy();
        wearArguments();
        lostArguments();
        lostEver();
        wakeArguments();
        wakeOfTheSame();
        extremeArguments();
        extremeOfAShorterRow();
        ofStringArguments();
        ofStringInTheLatestHour();
        ofVesselArguments();
        manyArguments();
        manyOfStates();
        manyOfHours();
        meanOfNothing();
        meanIsNotCut();
        CHECK.end("EdgeAskedTest");
    }

    /** Promise 14: "if there is no such TURBINE", ahead of "if what is not 0 to 9". */
    private static void ofTurbineArguments() {
        CHECK.part("promise 14: arguments");
        WakeBanks sea = Seas.apart(9999, 8);
        CHECK.refused(sea, IndexOutOfBoundsException.class, () -> sea.ofTurbine(-1, 0),
                () -> sea.ofTurbine(8, 0), () -> sea.ofTurbine(8, 10),
                () -> sea.ofTurbine(-1, -1), () -> sea.ofTurbine(MIN, 0),
                () -> sea.ofTurbine(MAX, 0));
        CHECK.refused(sea, IllegalArgumentException.class, () -> sea.ofTurbine(0, -1),
                () -> sea.ofTurbine(7, 10), () -> sea.ofTurbine(7, MIN),
                () -> sea.ofTurbine(0, MAX));
        CHECK.same("the last one", sea.ofTurbine(7, 0), 2);
        CHECK.same("the last what", sea.ofTurbine(7, 9), 0);
        WakeBanks two = Seas.apart(9999, 2);
        CHECK.refused(two, IndexOutOfBoundsException.class, () -> two.ofTurbine(2, 0));
    }

    private static void fresh(WakeBanks sea, int turbine) {
        int[] due = {2, 0, 0, 0, 0, 0, 0, -1, -1, 0};
        for (int what = 0; what < 10; what++) {
            CHECK.same("what " + what, sea.ofTurbine(turbine, what), due[what]);
        }
        for (int part = 0; part < 3; part++) {
            CHECK.same("wear", sea.wear(turbine, part), 0);
        }
        for (int cause = 0; cause < 8; cause++) {
            CHECK.same("lost", sea.lost(turbine, cause), 0);
        }
    }

    /** Promise 14: "RUNNING (at first)", "0 at first", "(0)", "(NONE)", also of one told later. */
    private static void ofTurbineAtFirst() {
        CHECK.part("promise 14: at first");
        WakeBanks sea = Seas.one();
        fresh(sea, 0);
        sea.blow(1, 7, 25, 0, 0, 20000);
        sea.turbine(0, 0, 0);
        fresh(sea, 1);
        sea.blow(1, 7, 0, 0, 0, 20000);
        sea.turbine(0, 1, 0);
        fresh(sea, 2);
        WakeBanks inWake = Seas.one();
        inWake.turbine(10, 9, 0);
        CHECK.same("SECTOR 0 already has its WAKES", inWake.ofTurbine(1, 4), 39);
    }

    /** Promise 14: "2 its WIND in the latest HOUR (0), 3 what it DELIVERED in that". */
    private static void ofTurbineInTheLatestHour() {
        CHECK.part("promise 14: in the latest HOUR");
        WakeBanks sea = Seas.apart(9999, 1);
        sea.blow(24, 2, 10, 0, 0, 700);
        CHECK.same("WIND", sea.ofTurbine(0, 2), 10);
        CHECK.same("DELIVERED, of one HOUR", sea.ofTurbine(0, 3), 700);
        sea.call(0, false);
        CHECK.same("not what is now", sea.ofTurbine(0, 3), 700);
        sea.blow(1, 2, 30, 0, 0, 20000);
        CHECK.same("WIND", sea.ofTurbine(0, 2), 30);
        CHECK.same("DELIVERED", sea.ofTurbine(0, 3), 0);
        sea.blow(1, 2, 0, 0, 0, 20000);
        CHECK.same("WIND", sea.ofTurbine(0, 2), 0);
    }

    /** Promise 14: "7 the PART that is the CAUSE of its fault (NONE, if it is not FAULTED)". */
    private static void causeOnlyIfFaulted() {
        CHECK.part("promise 14: CAUSE");
        WakeBanks sea = Seas.worn();
        CHECK.same("worn, but RUNNING", sea.ofTurbine(0, 7), -1);
        Seas.hour(sea, 10);
        CHECK.same("FAULTED", sea.ofTurbine(0, 7), 2);
        sea.vessel(20);
        sea.sail(0, 0);
        CHECK.same("FAULTED", sea.ofTurbine(0, 7), 2);
        sea.lock(0, true);
        CHECK.same("LOCKED", sea.ofTurbine(0, 7), -1);
        sea.lock(0, false);
        CHECK.same("STOPPED", sea.ofTurbine(0, 7), -1);
        Seas.hours(sea, 2, 10);
        CHECK.same("RUNNING", sea.ofTurbine(0, 7), -1);
        Seas.hour(sea, 10);
        CHECK.same("FAULTED again", sea.ofTurbine(0, 7), 2);
    }

    /** Promise 14: "8 the VESSEL that has LOCKED it (NONE)": 0 is a VESSEL, too. */
    private static void lockerOnlyIfLocked() {
        CHECK.part("promise 14: who LOCKED it");
        WakeBanks sea = Seas.apart(9999, 3);
        for (int i = 0; i < 3; i++) {
            CHECK.same("none", sea.ofTurbine(2 - i, 8), -1);
            sea.vessel(20);
            sea.sail(i, 2 - i);
            CHECK.same("there, but not LOCKED", sea.ofTurbine(2 - i, 8), -1);
            sea.lock(i, true);
            CHECK.same("LOCKED", sea.ofTurbine(2 - i, 8), i);
        }
        sea.lock(1, false);
        CHECK.same("UNLOCKED", sea.ofTurbine(1, 8), -1);
        CHECK.same("the other ones are not", sea.ofTurbine(2, 8), 0);
    }

    /** Promise 14: "9 1 if it is STOPPED by a call, 2 of a price, otherwise 0". */
    private static void stoppedBy() {
        CHECK.part("promise 14: STOPPED by what");
        WakeBanks[] seas = {
            Seas.stoppedByItself(), Seas.stoppedByCall(), Seas.stoppedOfPrice(), Seas.starting(),
            Seas.one(), Seas.faulted(), Seas.locked(),
        };
        int[] state = {0, 0, 0, 1, 2, 3, 4};
        int[] by = {0, 1, 2, 0, 0, 0, 0};
        for (int i = 0; i < seas.length; i++) {
            CHECK.same("STATE", seas[i].ofTurbine(0, 0), state[i]);
            CHECK.same("STOPPED by", seas[i].ofTurbine(0, 9), by[i]);
        }
    }

    /** Promise 15: "if there is no such TURBINE, or PART". */
    private static void wearArguments() {
        CHECK.part("promise 15: arguments");
        WakeBanks sea = Seas.apart(9999, 2);
        CHECK.refused(sea, IndexOutOfBoundsException.class, () -> sea.wear(-1, 0),
                () -> sea.wear(2, 0), () -> sea.wear(7, 0), () -> sea.wear(8, 0),
                () -> sea.wear(MIN, 0), () -> sea.wear(MAX, 0), () -> sea.wear(0, -1),
                () -> sea.wear(0, 3), () -> sea.wear(1, MIN), () -> sea.wear(1, MAX));
        sea.turn(1, 1);
        Seas.hour(sea, 10);
        CHECK.same("the last PART of the last one", sea.wear(1, 2), 1);
        CHECK.same("the first PART of the first one", sea.wear(0, 0), 1);
    }

    /** Promise 16: "if there is no such TURBINE, or CAUSE". */
    private static void lostArguments() {
        CHECK.part("promise 16: arguments");
        WakeBanks sea = Seas.apart(9999, 2);
        CHECK.refused(sea, IndexOutOfBoundsException.class, () -> sea.lost(-1, 0),
                () -> sea.lost(2, 0), () -> sea.lost(7, 0), () -> sea.lost(8, 0),
                () -> sea.lost(MIN, 0), () -> sea.lost(MAX, 0), () -> sea.lost(0, -1),
                () -> sea.lost(0, 8), () -> sea.lost(1, MIN), () -> sea.lost(1, MAX));
        sea.blow(1, 2, 10, 0, 0, 0);
        CHECK.same("the last CAUSE of the last one", sea.lost(1, 7), 1000);
        CHECK.same("the first CAUSE of the first one", sea.lost(0, 0), 0);
    }

    /** Promise 16: "what it did not make ever by that". */
    private static void lostEver() {
        CHECK.part("promise 16: ever");
        WakeBanks sea = Seas.one();
        sea.call(0, false);
        for (int hour = 1; hour <= 30; hour++) {
            Seas.hour(sea, 25);
            CHECK.same("lost", sea.lost(0, 4), 2000 * hour);
        }
        sea.call(0, true);
        Seas.hour(sea, 25);
        CHECK.same("and it stays", sea.lost(0, 4), 60000);
    }

    /** Promise 17: "if there is no such TURBINE", the first one or the other one. */
    private static void wakeArguments() {
        CHECK.part("promise 17: arguments");
        WakeBanks sea = Seas.at(9999, 10, 9, 10, 10);
        CHECK.refused(sea, IndexOutOfBoundsException.class, () -> sea.wake(-1, 0),
                () -> sea.wake(0, -1), () -> sea.wake(2, 0), () -> sea.wake(0, 2),
                () -> sea.wake(2, 2), () -> sea.wake(-1, -1), () -> sea.wake(8, 0),
                () -> sea.wake(0, 8), () -> sea.wake(MIN, 0), () -> sea.wake(0, MAX));
        CHECK.same("of the first by the other", sea.wake(0, 1), 39);
        CHECK.same("of the other by the first", sea.wake(1, 0), 0);
    }

    /** Promise 17: "0, if .. both are the same". */
    private static void wakeOfTheSame() {
        CHECK.part("promise 17: both are the same");
        WakeBanks sea = Seas.apart(9999, 8);
        for (int sector = 0; sector < 8; sector++) {
            sea.blow(1, sector, 10, 0, 0, 20000);
            for (int i = 0; i < 8; i++) {
                sea.turn(i, sector % 5 - 2);
                CHECK.same("the same", sea.wake(i, i), 0);
            }
        }
    }

    /** Promise 18: "if there is no such TURBINE, or EXTREME". */
    private static void extremeArguments() {
        CHECK.part("promise 18: arguments");
        WakeBanks sea = Seas.apart(9999, 2);
        CHECK.refused(sea, IndexOutOfBoundsException.class, () -> sea.extreme(0, 0),
                () -> sea.extreme(0, -1), () -> sea.extreme(2, 0), () -> sea.extreme(-1, 0));
        sea.call(1, false);
        Seas.hour(sea, 10);
        Seas.hour(sea, 14);
        CHECK.same("the first one", sea.extreme(0, 0), 10);
        CHECK.same("the last one", sea.extreme(0, 1), 14);
        CHECK.refused(sea, IndexOutOfBoundsException.class, () -> sea.extreme(0, 2),
                () -> sea.extreme(0, -1), () -> sea.extreme(1, 0), () -> sea.extreme(2, 0),
                () -> sea.extreme(MIN, 0), () -> sea.extreme(MAX, 0), () -> sea.extreme(0, MIN),
                () -> sea.extreme(0, MAX), () -> sea.extreme(0, 29), () -> sea.extreme(0, 30));
    }

    /** Promise 18: what went out of the row is no EXTREME any more. */
    private static void extremeOfAShorterRow() {
        CHECK.part("promise 18: a shorter row");
        WakeBanks sea = Seas.one();
        int[] speeds = {10, 20, 14, 16};
        for (int speed : speeds) {
            Seas.hour(sea, speed);
        }
        CHECK.same("the last one", sea.extreme(0, 3), 16);
        Seas.hour(sea, 9);
        CHECK.same("how many", sea.ofTurbine(0, 6), 2);
        CHECK.same("the last one", sea.extreme(0, 1), 9);
        CHECK.refused(sea, IndexOutOfBoundsException.class, () -> sea.extreme(0, 2),
                () -> sea.extreme(0, 3));
    }

    /** Promise 19: "if there is no such STRING", ahead of "if what is not 0 to 3". */
    private static void ofStringArguments() {
        CHECK.part("promise 19: arguments");
        WakeBanks sea = Seas.at(9999);
        sea.string(100);
        CHECK.refused(sea, IndexOutOfBoundsException.class, () -> sea.ofString(-1, 0),
                () -> sea.ofString(2, 0), () -> sea.ofString(2, 4), () -> sea.ofString(3, 0),
                () -> sea.ofString(-1, -1), () -> sea.ofString(MIN, 0),
                () -> sea.ofString(MAX, 0));
        CHECK.refused(sea, IllegalArgumentException.class, () -> sea.ofString(0, -1),
                () -> sea.ofString(1, 4), () -> sea.ofString(1, MIN),
                () -> sea.ofString(0, MAX));
        CHECK.same("the last one", sea.ofString(1, 0), 100);
        CHECK.same("the last what", sea.ofString(1, 3), 0);
        sea.string(200);
        CHECK.same("the third one", sea.ofString(2, 0), 200);
        CHECK.refused(sea, IndexOutOfBoundsException.class, () -> sea.ofString(3, 0));
    }

    /** Promise 19: "3 what went through it in the latest HOUR, ahead of the ORDER (0)". */
    private static void ofStringInTheLatestHour() {
        CHECK.part("promise 19: in the latest HOUR");
        WakeBanks sea = Seas.apart(1500, 2);
        CHECK.same("at first", sea.ofString(0, 3), 0);
        CHECK.same("the ORDER", sea.blow(1, 2, 10, 0, 0, 0), 0);
        CHECK.same("ahead of it, of one HOUR", sea.ofString(0, 3), 1500);
        CHECK.same("HEAT", sea.ofString(0, 1), 375);
        CHECK.same("LIMIT now", sea.ofString(0, 2), 1500 - 37);
        Seas.hour(sea, 3);
        CHECK.same("nothing", sea.ofString(0, 3), 0);
        sea.string(500);
        int[] due = {500, 0, 500, 0};
        for (int what = 0; what < 4; what++) {
            CHECK.same("told since " + what, sea.ofString(1, what), due[what]);
        }
    }

    /** Promise 20: "if there is no such VESSEL", ahead of "if what is not 0 to 4". */
    private static void ofVesselArguments() {
        CHECK.part("promise 20: arguments");
        WakeBanks sea = Seas.one();
        sea.vessel(5);
        sea.vessel(5);
        CHECK.refused(sea, IndexOutOfBoundsException.class, () -> sea.ofVessel(-1, 0),
                () -> sea.ofVessel(2, 0), () -> sea.ofVessel(2, 5), () -> sea.ofVessel(3, 0),
                () -> sea.ofVessel(-1, -1), () -> sea.ofVessel(MIN, 0),
                () -> sea.ofVessel(MAX, 0));
        CHECK.refused(sea, IllegalArgumentException.class, () -> sea.ofVessel(0, -1),
                () -> sea.ofVessel(1, 5), () -> sea.ofVessel(1, MIN),
                () -> sea.ofVessel(0, MAX));
        int[] due = {-1, 0, -1, 0, 0};
        for (int what = 0; what < 5; what++) {
            CHECK.same("at first " + what, sea.ofVessel(1, what), due[what]);
        }
        sea.vessel(5);
        CHECK.same("the third one", sea.ofVessel(2, 0), -1);
        sea.sail(2, 0);
        CHECK.same("TURBINE 0 is not NONE", sea.ofVessel(2, 0), 0);
        sea.lock(2, true);
        Seas.hours(sea, 7, 10);
        sea.climb(2, 0);
        CHECK.same("PART 0 is not NONE", sea.ofVessel(2, 2), 0);
    }

    /** Promise 21: "if what is not 0 to 13". */
    private static void manyArguments() {
        CHECK.part("promise 21: arguments");
        WakeBanks sea = Seas.one();
        CHECK.refused(sea, IllegalArgumentException.class, () -> sea.many(-1),
                () -> sea.many(14), () -> sea.many(MIN), () -> sea.many(MAX));
        Seas.hour(sea, 10);
        CHECK.same("the first", sea.many(0), 1);
        CHECK.same("the last", sea.many(13), 1000);
    }

    /** Promise 21: "4 RUNNING ones, 5 FAULTED ones, 6 LOCKED ones", from none to all. */
    private static void manyOfStates() {
        CHECK.part("promise 21: STATES");
        WakeBanks sea = Seas.apart(9999, 8);
        sea.vessel(20);
        for (int i = 0; i <= 8; i++) {
            CHECK.same("RUNNING ones", sea.many(4), 8 - i);
            CHECK.same("LOCKED ones", sea.many(6), i);
            CHECK.same("FAULTED ones", sea.many(5), 0);
            if (i < 8) {
                sea.sail(0, i);
                sea.lock(0, true);
            }
        }
        WakeBanks worn = Seas.apart(9999, 8);
        for (int i = 0; i < 8; i++) {
            CHECK.same("FAULTED ones", worn.many(5), 0);
            CHECK.same("RUNNING ones", worn.many(4), 8);
            Seas.hour(worn, i % 2 == 0 ? 3 : 25);
        }
        CHECK.same("all are FAULTED", worn.many(5), 8);
        CHECK.same("RUNNING ones", worn.many(4), 0);
    }

    /** Promise 21: "7 POTENTIAL of all HOURS", "8 DELIVERED in all", "13 .. in the latest HOUR". */
    private static void manyOfHours() {
        CHECK.part("promise 21: HOURS");
        WakeBanks sea = Seas.apart(9999, 2);
        sea.call(0, false);
        sea.blow(24, 2, 10, 0, 0, 600);
        CHECK.same("HOUR", sea.many(3), 24);
        CHECK.same("POTENTIAL, also of one that stands", sea.many(7), 48000);
        CHECK.same("DELIVERED", sea.many(8), 24 * 600);
        CHECK.same("in the latest HOUR", sea.many(13), 600);
        Seas.hour(sea, 3);
        CHECK.same("in the latest HOUR", sea.many(13), 0);
        CHECK.same("DELIVERED", sea.many(8), 24 * 600);
        sea.turbine(19, 0, 0);
        Seas.hour(sea, 10);
        CHECK.same("POTENTIAL of those that are there then", sea.many(7), 48000 + 3000);
    }

    /** Promise 22: "0 without POTENTIAL". */
    private static void meanOfNothing() {
        CHECK.part("promise 22: without POTENTIAL");
        CHECK.same("no TURBINE", new WakeBanks().meanDelivered(), 0.0);
        WakeBanks sea = Seas.one();
        CHECK.same("no HOUR", sea.meanDelivered(), 0.0);
        Seas.hour(sea, 3);
        CHECK.same("no POWER", sea.meanDelivered(), 0.0);
        sea.blow(1, 2, 10, 0, 0, 0);
        CHECK.same("POTENTIAL, but nothing DELIVERED", sea.meanDelivered(), 0.0);
        CHECK.that("and no sign", 1.0 / sea.meanDelivered() > 0);
    }

    /** Promise 22: "divided by POTENTIAL of all, not cut". */
    private static void meanIsNotCut() {
        CHECK.part("promise 22: not cut");
        WakeBanks all = Seas.one();
        Seas.hour(all, 10);
        CHECK.same("all of it", all.meanDelivered(), 1.0);
        all.blow(1, 2, 10, 0, 0, 1);
        CHECK.same("1001 of 2000", all.meanDelivered(), 0.5005);
        all.blow(1, 2, 10, 0, 0, 0);
        CHECK.same("1001 of 3000", all.meanDelivered(), 1001.0 / 3000.0);
        WakeBanks least = Seas.apart(9999, 7);
        least.blow(1, 2, 10, 0, 0, 1);
        CHECK.same("1 of 7000", least.meanDelivered(), 1.0 / 7000.0);
    }
}
