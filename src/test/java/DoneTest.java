/** Promises 7 to 13: what is done, but for the HOURS themselves. */
public final class DoneTest {
    private static final Check CHECK = new Check();

    private DoneTest() {
    }

    public static void main(String[] args) {
        promise7();
        promise8();
        promise9();
        promise10();
        promise11();
        promise12();
        promise13();
        works();
        stranded();
        CHECK.end("DoneTest");
    }

    /** Two TURBINES out of each other's WAKES, and two VESSELS with LIMITS 10 and 20. */
    private static WakeBanks harbour() {
        WakeBanks sea = new WakeBanks();
        sea.string(9999);
        sea.turbine(0, 0, 0);
        sea.turbine(0, 19, 0);
        sea.vessel(10);
        sea.vessel(20);
        return sea;
    }

    private static void hours(WakeBanks sea, int hours, int wave) {
        sea.blow(hours, 2, 10, wave, 0, 20000);
    }

    private static void promise7() {
        CHECK.part("promise 7");
        WakeBanks sea = harbour();
        CHECK.refused(sea, IndexOutOfBoundsException.class, () -> sea.turn(-1, 0),
                () -> sea.turn(2, 0), () -> sea.turn(2, 3), () -> sea.turn(Integer.MAX_VALUE, 0));
        CHECK.refused(sea, IllegalArgumentException.class, () -> sea.turn(0, -3),
                () -> sea.turn(0, 3), () -> sea.turn(0, Integer.MIN_VALUE));
        CHECK.same("before", sea.turn(1, 2), 0);
        CHECK.same("before", sea.turn(1, -2), 2);
        CHECK.same("before", sea.turn(1, -2), -2);
        CHECK.same("TURN", sea.ofTurbine(1, 1), -2);
        CHECK.same("of the other", sea.ofTurbine(0, 1), 0);
        sea.call(1, false);
        CHECK.same("of one that stands", sea.turn(1, 1), -2);
        CHECK.same("STATE", sea.ofTurbine(1, 0), 0);
    }

    private static void promise8() {
        CHECK.part("promise 8");
        WakeBanks sea = harbour();
        CHECK.refused(sea, IndexOutOfBoundsException.class, () -> sea.call(-1, true),
                () -> sea.call(2, false), () -> sea.call(Integer.MIN_VALUE, false));
        CHECK.refused(sea, IllegalStateException.class, () -> sea.call(0, true));
        CHECK.same("RUNNING", sea.call(0, false), 2);
        CHECK.same("STOPPED", sea.ofTurbine(0, 0), 0);
        CHECK.same("by a call", sea.ofTurbine(0, 9), 1);
        CHECK.refused(sea, IllegalStateException.class, () -> sea.call(0, false));
        hours(sea, 5, 0);
        CHECK.same("for good", sea.ofTurbine(0, 9), 1);
        CHECK.same("STOPPED", sea.call(0, true), 0);
        CHECK.same("STARTING", sea.ofTurbine(0, 0), 1);
        CHECK.same("by none", sea.ofTurbine(0, 9), 0);
        CHECK.refused(sea, IllegalStateException.class, () -> sea.call(0, true));
        CHECK.same("STARTING", sea.call(0, false), 1);
        sea.call(0, true);
        sea.blow(2, 2, 26, 0, 0, 20000);
        CHECK.same("STOPPED by itself", sea.ofTurbine(0, 9), 0);
        CHECK.refused(sea, IllegalStateException.class, () -> sea.call(0, true));
        CHECK.same("STOPPED by itself", sea.call(0, false), 0);
        CHECK.same("now by a call", sea.ofTurbine(0, 9), 1);
        sea.call(0, true);
        hours(sea, 1, 0);
        sea.floor(1);
        hours(sea, 1, 0);
        CHECK.same("of a price", sea.ofTurbine(0, 9), 2);
        CHECK.refused(sea, IllegalStateException.class, () -> sea.call(0, true));
        CHECK.same("of a price", sea.call(0, false), 0);
        CHECK.same("now by a call", sea.ofTurbine(0, 9), 1);
        CHECK.same("and it goes", sea.call(0, true), 0);
        sea.sail(0, 1);
        sea.lock(0, true);
        CHECK.refused(sea, IllegalStateException.class, () -> sea.call(1, false),
                () -> sea.call(1, true));
        sea.lock(0, false);
        CHECK.same("unlocked", sea.call(1, false), 0);
        callOfAFaultedOne();
    }

    private static void callOfAFaultedOne() {
        WakeBanks sea = harbour();
        for (int i = 0; i < 5; i++) {
            hours(sea, 24, 0);
        }
        CHECK.same("FAULTED", sea.ofTurbine(0, 0), 3);
        CHECK.refused(sea, IllegalStateException.class, () -> sea.call(0, false),
                () -> sea.call(0, true));
    }

    private static void promise9() {
        CHECK.part("promise 9");
        WakeBanks sea = harbour();
        CHECK.refused(sea, IllegalArgumentException.class, () -> sea.floor(-52),
                () -> sea.floor(51), () -> sea.floor(Integer.MAX_VALUE),
                () -> sea.floor(Integer.MIN_VALUE));
        CHECK.same("at first", sea.floor(50), -51);
        sea.blow(1, 2, 10, 0, 49, 20000);
        CHECK.same("both stop", sea.many(4), 0);
        CHECK.same("of a price", sea.ofTurbine(1, 9), 2);
        CHECK.same("before", sea.floor(-50), 50);
        sea.blow(2, 2, 10, 0, -50, 20000);
        CHECK.same("both RUN", sea.many(4), 2);
        CHECK.same("before", sea.floor(-51), -50);
        sea.blow(1, 2, 10, 0, -50, 20000);
        CHECK.same("none is below", sea.many(4), 2);
        CHECK.same("before", sea.floor(0), -51);
        CHECK.same("before", sea.floor(0), 0);
        CHECK.same("no HOUR came", sea.many(4), 2);
    }

    private static void promise10() {
        CHECK.part("promise 10");
        WakeBanks sea = harbour();
        CHECK.refused(sea, IndexOutOfBoundsException.class, () -> sea.sail(-1, 0),
                () -> sea.sail(2, 0), () -> sea.sail(0, 2), () -> sea.sail(0, -2),
                () -> sea.sail(0, Integer.MAX_VALUE), () -> sea.sail(2, -1));
        CHECK.same("from PORT to PORT", sea.sail(0, -1), -1);
        CHECK.same("from PORT", sea.sail(0, 1), -1);
        CHECK.same("it is there", sea.ofVessel(0, 0), 1);
        CHECK.refused(sea, IllegalStateException.class, () -> sea.sail(1, 1));
        CHECK.same("the other one", sea.sail(1, 0), -1);
        CHECK.refused(sea, IllegalStateException.class, () -> sea.sail(0, 0));
        CHECK.same("to where it is", sea.sail(0, 1), 1);
        CHECK.same("to PORT", sea.sail(0, -1), 1);
        CHECK.same("to PORT, too", sea.sail(1, -1), 0);
        sea.sail(0, 0);
        sea.lock(0, true);
        hours(sea, 7, 0);
        sea.climb(0, 0);
        CHECK.refused(sea, IndexOutOfBoundsException.class, () -> sea.sail(0, 2));
        CHECK.refused(sea, IllegalStateException.class, () -> sea.sail(0, -1),
                () -> sea.sail(0, 0), () -> sea.sail(0, 1));
        sea.down(0);
        CHECK.same("the lock stays", sea.sail(0, 1), 0);
        CHECK.same("LOCKED", sea.ofTurbine(0, 0), 4);
        CHECK.same("by it", sea.ofTurbine(0, 8), 0);
    }

    private static void promise11() {
        CHECK.part("promise 11");
        WakeBanks sea = harbour();
        CHECK.refused(sea, IndexOutOfBoundsException.class, () -> sea.lock(-1, true),
                () -> sea.lock(2, false), () -> sea.lock(Integer.MIN_VALUE, true));
        CHECK.refused(sea, IllegalStateException.class, () -> sea.lock(0, true),
                () -> sea.lock(0, false));
        sea.sail(0, 1);
        CHECK.refused(sea, IllegalStateException.class, () -> sea.lock(0, false));
        CHECK.same("the TURBINE", sea.lock(0, true), 1);
        CHECK.same("LOCKED", sea.ofTurbine(1, 0), 4);
        CHECK.same("by it", sea.ofTurbine(1, 8), 0);
        CHECK.same("LOCKED ones", sea.many(6), 1);
        CHECK.refused(sea, IllegalStateException.class, () -> sea.lock(0, true));
        sea.sail(0, -1);
        sea.sail(1, 1);
        CHECK.refused(sea, IllegalStateException.class, () -> sea.lock(1, true),
                () -> sea.lock(1, false), () -> sea.lock(0, false));
        sea.sail(1, -1);
        sea.sail(0, 1);
        hours(sea, 7, 0);
        sea.climb(0, 0);
        CHECK.refused(sea, IllegalStateException.class, () -> sea.lock(0, false),
                () -> sea.lock(0, true));
        sea.down(0);
        CHECK.same("the TURBINE", sea.lock(0, false), 1);
        CHECK.same("STOPPED", sea.ofTurbine(1, 0), 0);
        CHECK.same("by itself", sea.ofTurbine(1, 9), 0);
        CHECK.same("by none", sea.ofTurbine(1, 8), -1);
        hours(sea, 1, 0);
        CHECK.same("STARTING", sea.ofTurbine(1, 0), 1);
        CHECK.refused(sea, IllegalStateException.class, () -> sea.lock(0, true),
                () -> sea.lock(0, false));
        lockOfStoppedOnes();
    }

    private static void lockOfStoppedOnes() {
        WakeBanks sea = harbour();
        sea.sail(1, 0);
        sea.call(0, false);
        CHECK.same("STOPPED by a call", sea.lock(1, true), 0);
        CHECK.same("no call any more", sea.ofTurbine(0, 9), 0);
        CHECK.same("unlocked", sea.lock(1, false), 0);
        CHECK.same("STOPPED by itself", sea.ofTurbine(0, 9), 0);
        CHECK.same("and LOCKED at once", sea.lock(1, true), 0);
        for (int i = 0; i < 5; i++) {
            hours(sea, 24, 0);
        }
        CHECK.same("FAULTED", sea.ofTurbine(1, 0), 3);
        CHECK.same("CAUSE", sea.ofTurbine(1, 7), 1);
        sea.sail(0, 1);
        CHECK.same("FAULTED", sea.lock(0, true), 1);
        CHECK.same("no CAUSE", sea.ofTurbine(1, 7), -1);
        sea.lock(0, false);
        hours(sea, 1, 0);
        CHECK.same("STARTING", sea.ofTurbine(1, 0), 1);
        hours(sea, 1, 0);
        CHECK.same("RUNNING", sea.ofTurbine(1, 0), 2);
        hours(sea, 1, 0);
        CHECK.same("FAULTED again", sea.ofTurbine(1, 7), 1);
    }

    private static void promise12() {
        CHECK.part("promise 12");
        WakeBanks sea = harbour();
        CHECK.refused(sea, IndexOutOfBoundsException.class, () -> sea.climb(-1, 0),
                () -> sea.climb(2, 0), () -> sea.climb(0, 3), () -> sea.climb(0, -1),
                () -> sea.climb(0, Integer.MAX_VALUE));
        hours(sea, 6, 11);
        CHECK.same("in PORT", sea.climb(0, 0), 1);
        sea.sail(0, 0);
        CHECK.same("not LOCKED", sea.climb(0, 0), 3);
        sea.sail(0, -1);
        sea.sail(1, 0);
        sea.lock(1, true);
        sea.sail(1, -1);
        sea.sail(0, 0);
        CHECK.same("LOCKED by another", sea.climb(0, 0), 3);
        sea.sail(0, 1);
        sea.lock(0, true);
        CHECK.same("WAVE ahead of night", sea.climb(0, 0), 4);
        hours(sea, 1, 11);
        CHECK.same("WAVE", sea.climb(0, 0), 4);
        CHECK.same("nothing changed", sea.ofVessel(0, 1), 0);
        hours(sea, 1, 10);
        CHECK.same("it does", sea.climb(0, 0), 0);
        CHECK.same("its crew is there", sea.ofVessel(0, 1), 1);
        CHECK.same("the PART", sea.ofVessel(0, 2), 0);
        CHECK.same("HOURS", sea.ofVessel(0, 3), 4);
        CHECK.same("it is already", sea.climb(0, 1), 2);
        CHECK.same("the PART", sea.ofVessel(0, 2), 0);
        CHECK.refused(sea, IndexOutOfBoundsException.class, () -> sea.climb(0, 3));
        daylight();
    }

    private static void daylight() {
        WakeBanks sea = harbour();
        sea.sail(0, 0);
        sea.lock(0, true);
        for (int hour = 0; hour < 50; hour++) {
            boolean isDay = hour % 24 >= 7 && hour % 24 <= 18;
            CHECK.same("HOUR " + hour, sea.climb(0, 2), isDay ? 0 : 5);
            if (isDay) {
                CHECK.same("HOURS", sea.down(0), 6);
            }
            hours(sea, 1, 0);
        }
    }

    private static void promise13() {
        CHECK.part("promise 13");
        WakeBanks sea = harbour();
        CHECK.refused(sea, IndexOutOfBoundsException.class, () -> sea.down(-1),
                () -> sea.down(2), () -> sea.down(Integer.MAX_VALUE));
        CHECK.refused(sea, IllegalStateException.class, () -> sea.down(0));
        sea.sail(0, 0);
        sea.lock(0, true);
        CHECK.refused(sea, IllegalStateException.class, () -> sea.down(0));
        hours(sea, 7, 0);
        sea.climb(0, 2);
        hours(sea, 2, 11);
        CHECK.refused(sea, IllegalStateException.class, () -> sea.down(0));
        hours(sea, 1, 10);
        CHECK.same("to go", sea.down(0), 3);
        CHECK.same("its crew is on it", sea.ofVessel(0, 1), 0);
        CHECK.same("no PART", sea.ofVessel(0, 2), -1);
        CHECK.same("no HOURS", sea.ofVessel(0, 3), 0);
        CHECK.same("it is still there", sea.ofVessel(0, 0), 0);
        CHECK.refused(sea, IllegalStateException.class, () -> sea.down(0));
        sea.climb(0, 2);
        CHECK.same("from the first again", sea.ofVessel(0, 3), 6);
    }

    private static void works() {
        CHECK.part("section 5, WORKS");
        int[] due = {4, 2, 6};
        for (int part = 0; part < 3; part++) {
            WakeBanks sea = harbour();
            sea.turn(0, 1);
            sea.sail(0, 0);
            hours(sea, 7, 0);
            sea.lock(0, true);
            sea.climb(0, part);
            int worn = sea.wear(0, part);
            CHECK.that("it is worn", worn > 0);
            for (int hour = due[part]; hour > 0; hour--) {
                CHECK.same("to go", sea.ofVessel(0, 3), hour);
                CHECK.same("not yet", sea.wear(0, part), worn);
                hours(sea, 1, 60);
            }
            CHECK.same("mended", sea.wear(0, part), 0);
            CHECK.that("the others are not", sea.wear(0, (part + 1) % 3) > 0);
            CHECK.that("the other one's is not", sea.wear(1, 0) > 0);
            CHECK.same("finished", sea.many(11), 1);
            CHECK.same("the crew stays", sea.ofVessel(0, 1), 1);
            CHECK.same("and WORKS on none", sea.ofVessel(0, 2), -1);
            CHECK.same("no HOURS", sea.ofVessel(0, 3), 0);
            CHECK.same("no other", sea.climb(0, 0), 2);
            hours(sea, 3, 0);
            CHECK.same("finished but once", sea.many(11), 1);
            CHECK.same("all was done", sea.down(0), 0);
        }
    }

    private static void stranded() {
        CHECK.part("section 5, STRANDED");
        WakeBanks sea = harbour();
        sea.sail(0, 0);
        sea.lock(0, true);
        hours(sea, 7, 60);
        CHECK.same("not on the VESSEL", sea.ofVessel(0, 4), 0);
        hours(sea, 1, 0);
        sea.climb(0, 1);
        hours(sea, 1, 20);
        CHECK.same("LIMIT plus 10", sea.ofVessel(0, 4), 0);
        hours(sea, 1, 21);
        CHECK.same("above", sea.ofVessel(0, 4), 1);
        CHECK.same("it goes on working", sea.many(11), 1);
        hours(sea, 2, 60);
        CHECK.same("also without work", sea.ofVessel(0, 4), 3);
        hours(sea, 1, 10);
        sea.down(0);
        hours(sea, 1, 60);
        CHECK.same("counted for good", sea.ofVessel(0, 4), 3);
        CHECK.same("the other VESSEL", sea.ofVessel(1, 4), 0);
    }
}
