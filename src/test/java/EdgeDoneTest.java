/** The edges that promises 7 to 10 name: turn, call, floor and sail. */
public final class EdgeDoneTest {
    private static final Check CHECK = new Check();
    private static final int MIN = Integer.MIN_VALUE;
    private static final int MAX = Integer.MAX_VALUE;

    private EdgeDoneTest() {
    }

    public static void main(String[] args) {
        turnOfNoTurbine();
        turns();
        turnNamedFirst();
        turnInAnyState();
        callOfNoTurbine();
        callOfFaultedAndLocked();
        callToGo();
        callToStop();
        callThenHours();
        floors();
        floorIsNotYetAnHour();
        floorOfNone();
        sailOfNoVessel();
        sailToNoTurbine();
        sailNamedFirst();
        sailWithItsCrewOff();
        sailToAnother();
        sailToPort();
        sailToWhereItIs();
        CHECK.end("EdgeDoneTest");
    }

    /** Promise 7: "if there is no such TURBINE". */
    private static void turnOfNoTurbine() {
        CHECK.part("promise 7: no such TURBINE");
        WakeBanks sea = Seas.apart(9999, 7);
        CHECK.refused(sea, IndexOutOfBoundsException.class, () -> sea.turn(-1, 0),
                () -> sea.turn(7, 0), () -> sea.turn(MIN, 0), () -> sea.turn(MAX, 0));
        CHECK.same("the last one", sea.turn(6, 1), 0);
        sea.turbine(19, 19, 0);
        CHECK.same("the eighth", sea.turn(7, 1), 0);
        CHECK.refused(sea, IndexOutOfBoundsException.class, () -> sea.turn(8, 0));
    }

    /** Promise 7: "if turn is not -2 to 2"; "Returns that before". */
    private static void turns() {
        CHECK.part("promise 7: TURN");
        WakeBanks sea = Seas.apart(9999, 2);
        CHECK.refused(sea, IllegalArgumentException.class, () -> sea.turn(0, -3),
                () -> sea.turn(0, 3), () -> sea.turn(1, MIN), () -> sea.turn(1, MAX));
        int before = 0;
        int[] turns = {-2, 2, 2, -1, 1, 0, 0};
        for (int turn : turns) {
            CHECK.same("before", sea.turn(1, turn), before);
            CHECK.same("TURN", sea.ofTurbine(1, 1), turn);
            before = turn;
        }
        CHECK.same("of the other one", sea.ofTurbine(0, 1), 0);
    }

    /** Promise 7: "If several exceptions apply, the one that is named first is thrown." */
    private static void turnNamedFirst() {
        CHECK.part("promise 7: named first");
        WakeBanks sea = Seas.one();
        CHECK.refused(sea, IndexOutOfBoundsException.class, () -> sea.turn(1, 3),
                () -> sea.turn(-1, -3));
    }

    /** Promise 7: nothing is asked of its STATE. */
    private static void turnInAnyState() {
        CHECK.part("promise 7: in any STATE");
        WakeBanks[] seas = {
            Seas.stoppedByItself(), Seas.stoppedByCall(), Seas.stoppedOfPrice(), Seas.starting(),
            Seas.one(), Seas.faulted(), Seas.locked(),
        };
        for (WakeBanks sea : seas) {
            int state = sea.ofTurbine(0, 0);
            CHECK.same("before", sea.turn(0, -2), 0);
            CHECK.same("before", sea.turn(0, 2), -2);
            CHECK.same("STATE", sea.ofTurbine(0, 0), state);
        }
    }

    /** Promise 8: "if there is no such TURBINE". */
    private static void callOfNoTurbine() {
        CHECK.part("promise 8: no such TURBINE");
        WakeBanks sea = Seas.apart(9999, 2);
        CHECK.refused(sea, IndexOutOfBoundsException.class, () -> sea.call(-1, false),
                () -> sea.call(2, false), () -> sea.call(2, true), () -> sea.call(MIN, true),
                () -> sea.call(MAX, false));
        CHECK.same("the last one", sea.call(1, false), 2);
        CHECK.same("the other one", sea.ofTurbine(0, 0), 2);
    }

    /** Promise 8: "if it is FAULTED or LOCKED". */
    private static void callOfFaultedAndLocked() {
        CHECK.part("promise 8: FAULTED or LOCKED");
        WakeBanks faulted = Seas.faulted();
        CHECK.refused(faulted, IllegalStateException.class, () -> faulted.call(0, false),
                () -> faulted.call(0, true));
        WakeBanks locked = Seas.locked();
        CHECK.refused(locked, IllegalStateException.class, () -> locked.call(0, false),
                () -> locked.call(0, true));
        WakeBanks both = Seas.stoppedByCall();
        both.vessel(20);
        both.sail(0, 0);
        both.lock(0, true);
        CHECK.refused(both, IllegalStateException.class, () -> both.call(0, true),
                () -> both.call(0, false));
    }

    /** Promise 8: "or is to go and is not STOPPED by a call"; "(it is STARTING then)". */
    private static void callToGo() {
        CHECK.part("promise 8: to go");
        WakeBanks[] seas = {
            Seas.stoppedByItself(), Seas.stoppedOfPrice(), Seas.starting(), Seas.one(),
        };
        for (WakeBanks sea : seas) {
            CHECK.refused(sea, IllegalStateException.class, () -> sea.call(0, true));
        }
        WakeBanks sea = Seas.stoppedByCall();
        CHECK.same("STATE before", sea.call(0, true), 0);
        CHECK.same("STARTING", sea.ofTurbine(0, 0), 1);
        CHECK.same("STOPPED by none", sea.ofTurbine(0, 9), 0);
    }

    /** Promise 8: "or is to stop and is that"; "Returns its STATE before". */
    private static void callToStop() {
        CHECK.part("promise 8: to stop");
        WakeBanks stopped = Seas.stoppedByCall();
        CHECK.refused(stopped, IllegalStateException.class, () -> stopped.call(0, false));
        WakeBanks[] seas = {
            Seas.stoppedByItself(), Seas.stoppedOfPrice(), Seas.starting(), Seas.one(),
        };
        int[] before = {0, 0, 1, 2};
        for (int i = 0; i < 4; i++) {
            WakeBanks sea = seas[i];
            CHECK.same("STATE before", sea.call(0, false), before[i]);
            CHECK.same("STOPPED", sea.ofTurbine(0, 0), 0);
            CHECK.same("by a call", sea.ofTurbine(0, 9), 1);
            CHECK.refused(sea, IllegalStateException.class, () -> sea.call(0, false));
            CHECK.same("and it goes", sea.call(0, true), 0);
        }
    }

    /** Promise 8: one STOPPED by a call stays so, one that goes RUNS in the next HOUR. */
    private static void callThenHours() {
        CHECK.part("promise 8: in the HOURS to come");
        WakeBanks sea = Seas.stoppedByCall();
        Seas.hours(sea, 48, 10);
        CHECK.same("STOPPED by a call", sea.ofTurbine(0, 9), 1);
        CHECK.same("lost to CALL", sea.lost(0, 4), 48000);
        sea.call(0, true);
        CHECK.same("RUNS", Seas.hour(sea, 10), 1000);
    }

    /** Promise 9: "if price is not -51 to 50"; "Returns that before". */
    private static void floors() {
        CHECK.part("promise 9: FLOOR");
        WakeBanks sea = Seas.one();
        CHECK.refused(sea, IllegalArgumentException.class, () -> sea.floor(-52),
                () -> sea.floor(51), () -> sea.floor(MIN), () -> sea.floor(MAX));
        int before = -51;
        int[] floors = {50, -50, 0, -51, -51, 49, 50};
        for (int floor : floors) {
            CHECK.same("before", sea.floor(floor), before);
            before = floor;
        }
        CHECK.refused(sea, IllegalArgumentException.class, () -> sea.floor(51));
        CHECK.same("a refused call changes nothing", sea.floor(-51), 50);
    }

    /** Promise 9: all stop in an HOUR, not by the call. */
    private static void floorIsNotYetAnHour() {
        CHECK.part("promise 9: below that PRICE all stop");
        WakeBanks sea = Seas.apart(9999, 8);
        sea.floor(50);
        CHECK.same("RUNNING ones", sea.many(4), 8);
        CHECK.same("at the FLOOR", sea.blow(1, 2, 10, 0, 50, 20000), 8000);
        CHECK.same("below it", sea.blow(1, 2, 10, 0, 49, 20000), 0);
        CHECK.same("RUNNING ones", sea.many(4), 0);
        for (int i = 0; i < 8; i++) {
            CHECK.same("of a price", sea.ofTurbine(i, 9), 2);
        }
    }

    /** Promise 9: "-51 for none (at first)": the smallest PRICE, -50, is not below it. */
    private static void floorOfNone() {
        CHECK.part("promise 9: none");
        WakeBanks sea = Seas.one();
        CHECK.same("at first", sea.blow(1, 2, 10, 0, -50, 20000), 1000);
        sea.floor(-50);
        CHECK.same("-50 is not below -50", sea.blow(1, 2, 10, 0, -50, 20000), 1000);
        sea.floor(-49);
        CHECK.same("-50 is below -49", sea.blow(1, 2, 10, 0, -50, 20000), 0);
        sea.floor(-51);
        CHECK.same("STARTING", sea.blow(1, 2, 10, 0, -50, 20000), 0);
        CHECK.same("RUNNING", sea.blow(1, 2, 10, 0, -50, 20000), 1000);
    }

    private static WakeBanks harbour() {
        WakeBanks sea = Seas.apart(9999, 2);
        sea.vessel(10);
        sea.vessel(20);
        return sea;
    }

    /** Promise 10: "if there is no such VESSEL". */
    private static void sailOfNoVessel() {
        CHECK.part("promise 10: no such VESSEL");
        WakeBanks sea = harbour();
        CHECK.refused(sea, IndexOutOfBoundsException.class, () -> sea.sail(-1, 0),
                () -> sea.sail(2, 0), () -> sea.sail(2, -1), () -> sea.sail(MIN, 0),
                () -> sea.sail(MAX, -1));
        CHECK.same("the last one", sea.sail(1, 0), -1);
    }

    /** Promise 10: "or TURBINE"; NONE is PORT. */
    private static void sailToNoTurbine() {
        CHECK.part("promise 10: no such TURBINE");
        WakeBanks sea = harbour();
        CHECK.refused(sea, IndexOutOfBoundsException.class, () -> sea.sail(0, 2),
                () -> sea.sail(0, -2), () -> sea.sail(0, 8), () -> sea.sail(0, MIN),
                () -> sea.sail(0, MAX));
        CHECK.same("the last one", sea.sail(0, 1), -1);
        CHECK.same("PORT", sea.sail(0, -1), 1);
    }

    /** Promise 10: "If several exceptions apply, the one that is named first is thrown." */
    private static void sailNamedFirst() {
        CHECK.part("promise 10: named first");
        WakeBanks sea = Seas.locked();
        Seas.hours(sea, 7, 10);
        sea.climb(0, 0);
        CHECK.refused(sea, IndexOutOfBoundsException.class, () -> sea.sail(0, 1),
                () -> sea.sail(0, -2), () -> sea.sail(1, 0));
    }

    /** Promise 10: "if its crew is on a TURBINE", wherever it is to go. */
    private static void sailWithItsCrewOff() {
        CHECK.part("promise 10: its crew is on a TURBINE");
        WakeBanks sea = Seas.locked();
        sea.turbine(0, 0, 0);
        Seas.hours(sea, 7, 10);
        sea.climb(0, 1);
        CHECK.refused(sea, IllegalStateException.class, () -> sea.sail(0, -1),
                () -> sea.sail(0, 0), () -> sea.sail(0, 1));
        Seas.hours(sea, 2, 10);
        CHECK.same("it WORKS on none", sea.ofVessel(0, 2), -1);
        CHECK.refused(sea, IllegalStateException.class, () -> sea.sail(0, -1));
        sea.down(0);
        CHECK.same("its crew is on it again", sea.sail(0, -1), 0);
    }

    /** Promise 10: "or another VESSEL is at that TURBINE". */
    private static void sailToAnother() {
        CHECK.part("promise 10: another VESSEL is there");
        WakeBanks sea = harbour();
        sea.vessel(30);
        sea.sail(1, 0);
        CHECK.refused(sea, IllegalStateException.class, () -> sea.sail(0, 0),
                () -> sea.sail(2, 0));
        CHECK.same("to the free one", sea.sail(2, 1), -1);
        CHECK.refused(sea, IllegalStateException.class, () -> sea.sail(0, 1),
                () -> sea.sail(0, 0), () -> sea.sail(1, 1), () -> sea.sail(2, 0));
        sea.sail(1, -1);
        CHECK.same("it left", sea.sail(0, 0), -1);
        CHECK.refused(sea, IllegalStateException.class, () -> sea.sail(1, 0),
                () -> sea.sail(2, 0));
    }

    /** Promise 10: in PORT there may be several; "Returns where it was (NONE for PORT)". */
    private static void sailToPort() {
        CHECK.part("promise 10: PORT");
        WakeBanks sea = harbour();
        CHECK.same("from PORT to PORT", sea.sail(0, -1), -1);
        CHECK.same("from PORT", sea.sail(0, 0), -1);
        CHECK.same("to PORT", sea.sail(0, -1), 0);
        CHECK.same("from PORT", sea.sail(1, 1), -1);
        CHECK.same("to PORT", sea.sail(1, -1), 1);
        CHECK.same("in PORT", sea.ofVessel(0, 0), -1);
        CHECK.same("in PORT", sea.ofVessel(1, 0), -1);
    }

    /** Promise 10: at the TURBINE to which it sails is just itself, not another one. */
    private static void sailToWhereItIs() {
        CHECK.part("promise 10: to where it is");
        WakeBanks sea = harbour();
        sea.sail(0, 1);
        CHECK.same("to where it is", sea.sail(0, 1), 1);
        sea.lock(0, true);
        CHECK.same("to what it LOCKED", sea.sail(0, 1), 1);
        CHECK.same("LOCKED", sea.ofTurbine(1, 8), 0);
    }
}
