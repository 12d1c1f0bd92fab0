/** The edges that section 5 and promises 11 to 13 name: lock, climb, down, WORKS, STRANDED. */
public final class EdgeCrewsTest {
    private static final Check CHECK = new Check();
    private static final int MIN = Integer.MIN_VALUE;
    private static final int MAX = Integer.MAX_VALUE;

    private EdgeCrewsTest() {
    }

    public static void main(String[] args) {
        lockOfNoVessel();
        lockInPort();
        lockWithItsCrewOff();
        lockOfAStartingOne();
        lockOfALockedOne();
        lockOfTheOthers();
        unlockOfOneNotLocked();
        unlockByAnother();
        unlockIsStoppedByItself();
        lockStaysWithoutItsVessel();
        climbOfNoVesselOrPart();
        climbInPort();
        climbTwice();
        climbWithoutALock();
        climbAtTheLimit();
        climbByDaylight();
        climbFirstOfThese();
        downOfNoVessel();
        downWithoutACrewOff();
        downAtTheLimit();
        downReturnsWhatWasToGo();
        hoursOfWork();
        onlyThatPart();
        severalCrews();
        strandedAboveLimitPlusTen();
        strandedOnlyOnATurbine();
        strandedGoesOnWorking();
        CHECK.end("EdgeCrewsTest");
    }

    private static void wave(WakeBanks sea, int hours, int wave) {
        sea.blow(hours, 2, 10, wave, 0, 20000);
    }

    /** HOUR is 7; VESSEL 0 has LIMIT 20 and is at TURBINE 0, which it LOCKED. */
    private static WakeBanks morning() {
        WakeBanks sea = Seas.locked();
        wave(sea, 7, 0);
        return sea;
    }

    /** Promise 11: "if there is no such VESSEL". */
    private static void lockOfNoVessel() {
        CHECK.part("promise 11: no such VESSEL");
        WakeBanks sea = Seas.locked();
        CHECK.refused(sea, IndexOutOfBoundsException.class, () -> sea.lock(-1, true),
                () -> sea.lock(1, true), () -> sea.lock(1, false), () -> sea.lock(MIN, false),
                () -> sea.lock(MAX, true));
        CHECK.same("the last one", sea.lock(0, false), 0);
    }

    /** Promise 11: "if it is in PORT". */
    private static void lockInPort() {
        CHECK.part("promise 11: in PORT");
        WakeBanks sea = Seas.one();
        sea.vessel(20);
        CHECK.refused(sea, IllegalStateException.class, () -> sea.lock(0, true),
                () -> sea.lock(0, false));
        sea.sail(0, 0);
        sea.lock(0, true);
        sea.sail(0, -1);
        CHECK.refused(sea, IllegalStateException.class, () -> sea.lock(0, true),
                () -> sea.lock(0, false));
    }

    /** Promise 11: "its crew is on the TURBINE", also one that WORKS on none. */
    private static void lockWithItsCrewOff() {
        CHECK.part("promise 11: its crew is on the TURBINE");
        WakeBanks sea = morning();
        sea.climb(0, 1);
        CHECK.refused(sea, IllegalStateException.class, () -> sea.lock(0, false),
                () -> sea.lock(0, true));
        wave(sea, 2, 0);
        CHECK.same("WORKS on none", sea.ofVessel(0, 2), -1);
        CHECK.refused(sea, IllegalStateException.class, () -> sea.lock(0, false));
        sea.down(0);
        CHECK.same("UNLOCKED", sea.lock(0, false), 0);
    }

    private static void come(WakeBanks sea) {
        sea.vessel(20);
        sea.sail(0, 0);
    }

    /** Promise 11: "that is STARTING .. (as it is to be LOCKED)". */
    private static void lockOfAStartingOne() {
        CHECK.part("promise 11: STARTING");
        WakeBanks called = Seas.starting();
        come(called);
        CHECK.refused(called, IllegalStateException.class, () -> called.lock(0, true),
                () -> called.lock(0, false));
        wave(called, 1, 0);
        CHECK.same("RUNNING", called.lock(0, true), 0);
        WakeBanks itself = Seas.stoppedByItself();
        come(itself);
        wave(itself, 1, 0);
        CHECK.same("STARTING", itself.ofTurbine(0, 0), 1);
        CHECK.refused(itself, IllegalStateException.class, () -> itself.lock(0, true));
    }

    /** Promise 11: "or LOCKED (as it is to be LOCKED)", by itself or by another one. */
    private static void lockOfALockedOne() {
        CHECK.part("promise 11: LOCKED");
        WakeBanks sea = Seas.locked();
        sea.vessel(20);
        CHECK.refused(sea, IllegalStateException.class, () -> sea.lock(0, true));
        sea.sail(0, -1);
        sea.sail(1, 0);
        CHECK.refused(sea, IllegalStateException.class, () -> sea.lock(1, true));
        CHECK.same("by the first one", sea.ofTurbine(0, 8), 0);
    }

    /**
     * Section 5 (promise 11): "it is not LOCKED, and FAULTED, STOPPED or RUNNING; then it is
     * LOCKED by that".
     */
    private static void lockOfTheOthers() {
        CHECK.part("promise 11: FAULTED, STOPPED, RUNNING");
        WakeBanks[] seas = {
            Seas.faulted(), Seas.stoppedByItself(), Seas.stoppedByCall(), Seas.stoppedOfPrice(),
            Seas.one(),
        };
        for (WakeBanks sea : seas) {
            come(sea);
            CHECK.same("the TURBINE", sea.lock(0, true), 0);
            CHECK.same("LOCKED", sea.ofTurbine(0, 0), 4);
            CHECK.same("by it", sea.ofTurbine(0, 8), 0);
            CHECK.same("no CAUSE", sea.ofTurbine(0, 7), -1);
            CHECK.same("not STOPPED", sea.ofTurbine(0, 9), 0);
            CHECK.same("LOCKED ones", sea.many(6), 1);
            CHECK.same("FAULTED ones", sea.many(5), 0);
        }
    }

    /** Promise 11: "or not LOCKED by this VESSEL (as it is to be UNLOCKED)": not LOCKED at all. */
    private static void unlockOfOneNotLocked() {
        CHECK.part("promise 11: not LOCKED");
        WakeBanks[] seas = {
            Seas.faulted(), Seas.stoppedByItself(), Seas.stoppedByCall(), Seas.stoppedOfPrice(),
            Seas.one(), Seas.starting(),
        };
        for (WakeBanks sea : seas) {
            come(sea);
            CHECK.refused(sea, IllegalStateException.class, () -> sea.lock(0, false));
        }
        WakeBanks twice = Seas.locked();
        twice.lock(0, false);
        CHECK.refused(twice, IllegalStateException.class, () -> twice.lock(0, false));
    }

    /** Promise 11: LOCKED by another VESSEL. */
    private static void unlockByAnother() {
        CHECK.part("promise 11: LOCKED by another VESSEL");
        WakeBanks sea = Seas.locked();
        sea.vessel(20);
        sea.sail(0, -1);
        sea.sail(1, 0);
        CHECK.refused(sea, IllegalStateException.class, () -> sea.lock(1, false));
        sea.sail(1, -1);
        sea.sail(0, 0);
        CHECK.same("the one that LOCKED it", sea.lock(0, false), 0);
    }

    /** Section 5: "it is STOPPED by itself", whatever it was ahead of the lock. */
    private static void unlockIsStoppedByItself() {
        CHECK.part("promise 11: STOPPED by itself");
        WakeBanks[] seas = {
            Seas.faulted(), Seas.stoppedByItself(), Seas.stoppedByCall(), Seas.stoppedOfPrice(),
            Seas.one(),
        };
        for (WakeBanks sea : seas) {
            come(sea);
            sea.lock(0, true);
            CHECK.same("the TURBINE", sea.lock(0, false), 0);
            CHECK.same("STOPPED", sea.ofTurbine(0, 0), 0);
            CHECK.same("by itself", sea.ofTurbine(0, 9), 0);
            CHECK.same("LOCKED by none", sea.ofTurbine(0, 8), -1);
            CHECK.same("no CAUSE", sea.ofTurbine(0, 7), -1);
            CHECK.refused(sea, IllegalStateException.class, () -> sea.call(0, true));
            wave(sea, 1, 0);
            CHECK.same("STARTING", sea.ofTurbine(0, 0), 1);
        }
    }

    /** Section 5: the lock is the VESSEL's, wherever it is, and it may LOCK several. */
    private static void lockStaysWithoutItsVessel() {
        CHECK.part("promise 11: its VESSEL is elsewhere");
        WakeBanks sea = Seas.locked();
        sea.turbine(0, 0, 0);
        sea.sail(0, 1);
        CHECK.same("another one", sea.lock(0, true), 1);
        sea.sail(0, -1);
        wave(sea, 24, 0);
        CHECK.same("LOCKED ones", sea.many(6), 2);
        sea.sail(0, 1);
        CHECK.same("where it is", sea.lock(0, false), 1);
        CHECK.same("LOCKED", sea.ofTurbine(0, 0), 4);
        CHECK.same("STOPPED", sea.ofTurbine(1, 0), 0);
    }

    /** Promise 12: "if there is no such VESSEL, or part is not 0 to 2", ahead of all answers. */
    private static void climbOfNoVesselOrPart() {
        CHECK.part("promise 12: no such VESSEL, or PART");
        WakeBanks sea = Seas.one();
        sea.vessel(20);
        CHECK.refused(sea, IndexOutOfBoundsException.class, () -> sea.climb(-1, 0),
                () -> sea.climb(1, 0), () -> sea.climb(MIN, 0), () -> sea.climb(MAX, 0),
                () -> sea.climb(0, -1), () -> sea.climb(0, 3), () -> sea.climb(0, MIN),
                () -> sea.climb(0, MAX), () -> sea.climb(1, 3));
        WakeBanks ready = morning();
        CHECK.refused(ready, IndexOutOfBoundsException.class, () -> ready.climb(0, 3),
                () -> ready.climb(0, -1));
        CHECK.same("the last PART", ready.climb(0, 2), 0);
        CHECK.refused(ready, IndexOutOfBoundsException.class, () -> ready.climb(0, 3));
    }

    private static void climbRefused(WakeBanks sea, int due) {
        String before = Picture.of(sea);
        for (int part = 0; part < 3; part++) {
            CHECK.same("climb", sea.climb(0, part), due);
        }
        CHECK.that("nothing is changed", before.equals(Picture.of(sea)));
    }

    /** Promise 12: "1 the VESSEL is in PORT". */
    private static void climbInPort() {
        CHECK.part("promise 12: in PORT");
        WakeBanks sea = morning();
        sea.sail(0, -1);
        climbRefused(sea, 1);
    }

    /** Promise 12: "2 its crew is on it already", also one that WORKS on none. */
    private static void climbTwice() {
        CHECK.part("promise 12: its crew is on it already");
        WakeBanks sea = morning();
        CHECK.same("climb", sea.climb(0, 1), 0);
        climbRefused(sea, 2);
        wave(sea, 2, 0);
        climbRefused(sea, 2);
        sea.down(0);
        CHECK.same("it is on the VESSEL again", sea.climb(0, 0), 0);
    }

    /** Promise 12: "3 the TURBINE is not LOCKED by this VESSEL". */
    private static void climbWithoutALock() {
        CHECK.part("promise 12: not LOCKED by this VESSEL");
        WakeBanks[] seas = {
            Seas.faulted(), Seas.stoppedByItself(), Seas.stoppedByCall(), Seas.one(),
            Seas.starting(),
        };
        for (WakeBanks sea : seas) {
            come(sea);
            climbRefused(sea, 3);
        }
        WakeBanks another = Seas.one();
        another.vessel(20);
        another.vessel(20);
        another.sail(1, 0);
        another.lock(1, true);
        another.sail(1, -1);
        another.sail(0, 0);
        wave(another, 7, 0);
        climbRefused(another, 3);
        WakeBanks unlocked = morning();
        unlocked.lock(0, false);
        climbRefused(unlocked, 3);
    }

    private static WakeBanks atLimit(int limit, int wave) {
        WakeBanks sea = Seas.one();
        sea.vessel(limit);
        sea.sail(0, 0);
        sea.lock(0, true);
        wave(sea, 7, wave);
        return sea;
    }

    /** Promise 12: "4 WAVE is above LIMIT", of the latest HOUR. */
    private static void climbAtTheLimit() {
        CHECK.part("promise 12: WAVE");
        int[] limits = {5, 20, 40};
        for (int limit : limits) {
            climbRefused(atLimit(limit, limit + 1), 4);
            CHECK.same("WAVE is LIMIT", atLimit(limit, limit).climb(0, 0), 0);
            CHECK.same("WAVE is less", atLimit(limit, limit - 1).climb(0, 0), 0);
        }
        WakeBanks calmer = atLimit(20, 60);
        climbRefused(calmer, 4);
        wave(calmer, 1, 20);
        CHECK.same("the latest WAVE", calmer.climb(0, 0), 0);
    }

    /** Promise 12: "5 it is not DAYLIGHT": HOUR modulo 24 is 7 to 18. */
    private static void climbByDaylight() {
        CHECK.part("promise 12: DAYLIGHT");
        int[][] hourAnswer = {
            {0, 5}, {1, 5}, {6, 5}, {7, 0}, {8, 0}, {17, 0}, {18, 0}, {19, 5}, {23, 5}, {24, 5},
            {30, 5}, {31, 0}, {42, 0}, {43, 5}, {54, 5}, {55, 0}, {66, 0}, {67, 5}, {240, 5},
            {246, 5}, {247, 0}, {258, 0}, {259, 5},
        };
        WakeBanks sea = Seas.locked();
        for (int[] row : hourAnswer) {
            Seas.hours(sea, row[0] - sea.many(3), 10);
            CHECK.same("HOUR", sea.many(3), row[0]);
            CHECK.same("climb at " + row[0], sea.climb(0, 0), row[1]);
            if (row[1] == 0) {
                sea.down(0);
            }
        }
    }

    /** Promise 12: "otherwise the first of these". */
    private static void climbFirstOfThese() {
        CHECK.part("promise 12: the first of these");
        WakeBanks port = Seas.one();
        port.vessel(20);
        wave(port, 1, 60);
        climbRefused(port, 1);
        port.sail(0, 0);
        climbRefused(port, 3);
        port.lock(0, true);
        climbRefused(port, 4);
        wave(port, 1, 0);
        climbRefused(port, 5);
        wave(port, 5, 0);
        CHECK.same("it does", port.climb(0, 0), 0);
        wave(port, 14, 60);
        climbRefused(port, 2);
    }

    /** Promise 13: "if there is no such VESSEL". */
    private static void downOfNoVessel() {
        CHECK.part("promise 13: no such VESSEL");
        WakeBanks sea = morning();
        sea.climb(0, 0);
        CHECK.refused(sea, IndexOutOfBoundsException.class, () -> sea.down(-1),
                () -> sea.down(1), () -> sea.down(MIN), () -> sea.down(MAX));
        CHECK.same("the last one", sea.down(0), 4);
    }

    /** Promise 13: "if its crew is on no TURBINE". */
    private static void downWithoutACrewOff() {
        CHECK.part("promise 13: its crew is on no TURBINE");
        WakeBanks sea = Seas.one();
        sea.vessel(20);
        CHECK.refused(sea, IllegalStateException.class, () -> sea.down(0));
        sea.sail(0, 0);
        CHECK.refused(sea, IllegalStateException.class, () -> sea.down(0));
        sea.lock(0, true);
        CHECK.refused(sea, IllegalStateException.class, () -> sea.down(0));
        wave(sea, 7, 0);
        sea.climb(0, 0);
        sea.down(0);
        CHECK.refused(sea, IllegalStateException.class, () -> sea.down(0));
    }

    /** Promise 13: "or WAVE is above LIMIT"; by night, too. */
    private static void downAtTheLimit() {
        CHECK.part("promise 13: WAVE");
        int[] limits = {5, 40};
        for (int limit : limits) {
            WakeBanks sea = atLimit(limit, 0);
            sea.climb(0, 2);
            wave(sea, 1, limit + 1);
            CHECK.refused(sea, IllegalStateException.class, () -> sea.down(0));
            wave(sea, 1, 60);
            CHECK.refused(sea, IllegalStateException.class, () -> sea.down(0));
            wave(sea, 1, limit);
            CHECK.same("WAVE is LIMIT", sea.down(0), 3);
        }
        WakeBanks night = morning();
        night.climb(0, 2);
        wave(night, 16, 20);
        CHECK.same("by night", night.down(0), 0);
    }

    /** Promise 13: "how many HOURS were to go (0, if all was done)"; "what was not finished ..". */
    private static void downReturnsWhatWasToGo() {
        CHECK.part("promise 13: what was to go");
        int[] work = {4, 2, 6};
        for (int part = 0; part < 3; part++) {
            for (int hours = 0; hours <= work[part] + 2; hours++) {
                WakeBanks sea = Seas.worn();
                come(sea);
                sea.lock(0, true);
                int worn = sea.wear(0, part);
                sea.climb(0, part);
                if (hours > 0) {
                    wave(sea, hours, 0);
                }
                boolean isDone = hours >= work[part];
                CHECK.same("to go", sea.down(0), isDone ? 0 : work[part] - hours);
                CHECK.same("WEAR", sea.wear(0, part), isDone ? 0 : worn);
                CHECK.same("finished", sea.many(11), isDone ? 1 : 0);
                CHECK.same("WORKS on none", sea.ofVessel(0, 2), -1);
                CHECK.same("none to go", sea.ofVessel(0, 3), 0);
                wave(sea, 6, 0);
                CHECK.same("not done later", sea.many(11), isDone ? 1 : 0);
            }
        }
        WakeBanks again = morning();
        again.climb(0, 2);
        wave(again, 5, 0);
        CHECK.same("to go", again.down(0), 1);
        again.climb(0, 2);
        CHECK.same("from the first HOUR again", again.ofVessel(0, 3), 6);
    }

    /** Section 5: "4 HOURS (GEAR), 2 (PITCH), 6 (BLADES)", "with 0 the WEAR of the PART is 0". */
    private static void hoursOfWork() {
        CHECK.part("section 5 (promises 12, 20, 21): HOURS of WORK");
        int[] work = {4, 2, 6};
        for (int part = 0; part < 3; part++) {
            WakeBanks sea = Seas.worn();
            come(sea);
            sea.lock(0, true);
            int worn = sea.wear(0, part);
            CHECK.that("it is worn", worn > 0);
            CHECK.same("climb", sea.climb(0, part), 0);
            for (int left = work[part]; left > 0; left--) {
                CHECK.same("to go", sea.ofVessel(0, 3), left);
                CHECK.same("WORKS on", sea.ofVessel(0, 2), part);
                CHECK.same("WEAR", sea.wear(0, part), worn);
                CHECK.same("finished", sea.many(11), 0);
                wave(sea, 1, 0);
            }
            CHECK.same("none to go", sea.ofVessel(0, 3), 0);
            CHECK.same("WORKS on none", sea.ofVessel(0, 2), -1);
            CHECK.same("WEAR", sea.wear(0, part), 0);
            CHECK.same("finished", sea.many(11), 1);
            CHECK.same("the crew stays", sea.ofVessel(0, 1), 1);
            wave(sea, 10, 0);
            CHECK.same("none to go", sea.ofVessel(0, 3), 0);
            CHECK.same("finished once", sea.many(11), 1);
        }
    }

    /** Section 5: the WEAR of the PART, not of the other PARTS or of another TURBINE. */
    private static void onlyThatPart() {
        CHECK.part("section 5 (promise 15): the PART");
        for (int part = 0; part < 3; part++) {
            WakeBanks sea = Seas.apart(9999, 2);
            for (int i = 0; i < 7; i++) {
                Seas.hour(sea, i % 2 == 0 ? 3 : 25);
            }
            sea.vessel(20);
            sea.sail(0, 1);
            sea.lock(0, true);
            int damage = sea.ofTurbine(1, 5);
            int[] before = {sea.wear(1, 0), sea.wear(1, 1), sea.wear(1, 2)};
            sea.call(0, false);
            sea.climb(0, part);
            wave(sea, 6, 0);
            for (int i = 0; i < 3; i++) {
                CHECK.same("WEAR", sea.wear(1, i), i == part ? 0 : before[i]);
                CHECK.same("of the other one", sea.wear(0, i), before[i]);
            }
            CHECK.same("DAMAGE stays", sea.ofTurbine(1, 5), damage);
            CHECK.same("EXTREMES stay", sea.ofTurbine(1, 6), 2);
        }
    }

    /** Section 5: "each crew that WORKS has one HOUR less to go". */
    private static void severalCrews() {
        CHECK.part("section 5 (promises 12, 20, 21): each crew");
        WakeBanks sea = Seas.apart(9999, 3);
        for (int i = 0; i < 3; i++) {
            sea.vessel(20);
            sea.sail(i, 2 - i);
            sea.lock(i, true);
        }
        wave(sea, 7, 0);
        sea.climb(0, 1);
        sea.climb(2, 1);
        wave(sea, 1, 0);
        sea.climb(1, 1);
        CHECK.same("to go", sea.ofVessel(0, 3), 1);
        CHECK.same("to go", sea.ofVessel(1, 3), 2);
        CHECK.same("to go", sea.ofVessel(2, 3), 1);
        wave(sea, 1, 0);
        CHECK.same("finished at once", sea.many(11), 2);
        CHECK.same("to go", sea.ofVessel(1, 3), 1);
        wave(sea, 1, 0);
        CHECK.same("finished", sea.many(11), 3);
    }

    /** Section 5: "if WAVE is above LIMIT plus 10, and a crew is on a TURBINE". */
    private static void strandedAboveLimitPlusTen() {
        CHECK.part("section 5 (promise 20): STRANDED");
        int[] limits = {5, 20, 40};
        for (int limit : limits) {
            WakeBanks sea = atLimit(limit, 0);
            sea.climb(0, 2);
            wave(sea, 1, limit);
            wave(sea, 1, limit + 1);
            wave(sea, 1, limit + 10);
            CHECK.same("LIMIT plus 10", sea.ofVessel(0, 4), 0);
            wave(sea, 1, limit + 11);
            CHECK.same("above it", sea.ofVessel(0, 4), 1);
            wave(sea, 3, 60);
            CHECK.same("one HOUR more each", sea.ofVessel(0, 4), 4);
        }
    }

    /** Section 5: "and a crew is on a TURBINE", also one that WORKS on none. */
    private static void strandedOnlyOnATurbine() {
        CHECK.part("section 5 (promise 20): STRANDED on a TURBINE");
        WakeBanks sea = morning();
        wave(sea, 1, 60);
        CHECK.same("on the VESSEL", sea.ofVessel(0, 4), 0);
        wave(sea, 1, 0);
        sea.climb(0, 1);
        wave(sea, 2, 0);
        CHECK.same("WORKS on none", sea.ofVessel(0, 2), -1);
        wave(sea, 2, 60);
        CHECK.same("STRANDED", sea.ofVessel(0, 4), 2);
        wave(sea, 1, 0);
        sea.down(0);
        wave(sea, 1, 60);
        CHECK.same("and no more", sea.ofVessel(0, 4), 2);
        wave(sea, 20, 0);
        sea.climb(0, 0);
        wave(sea, 1, 60);
        CHECK.same("of all times together", sea.ofVessel(0, 4), 3);
    }

    /** Section 5: "(it goes on working)"; the HOUR in which it ends counts, too. */
    private static void strandedGoesOnWorking() {
        CHECK.part("section 5 (promises 20, 21): it goes on working");
        WakeBanks sea = morning();
        sea.climb(0, 1);
        wave(sea, 1, 60);
        CHECK.same("to go", sea.ofVessel(0, 3), 1);
        wave(sea, 1, 60);
        CHECK.same("none to go", sea.ofVessel(0, 3), 0);
        CHECK.same("finished", sea.many(11), 1);
        CHECK.same("STRANDED", sea.ofVessel(0, 4), 2);
    }
}
