/** Seas with which a test of an edge begins, and HOURS for them. */
final class Seas {
    private Seas() {
    }

    /** TURBINES at x, y, x, y.. on one STRING. */
    static WakeBanks at(int rating, int... xy) {
        WakeBanks sea = new WakeBanks();
        sea.string(rating);
        for (int i = 0; i + 1 < xy.length; i += 2) {
            sea.turbine(xy[i], xy[i + 1], 0);
        }
        return sea;
    }

    static WakeBanks one() {
        return at(9999, 10, 10);
    }

    /** Side by side: in SECTOR 2, in which the HOURS of this class blow, none is in a WAKE. */
    static WakeBanks apart(int rating, int turbines) {
        WakeBanks sea = at(rating);
        for (int i = 0; i < turbines; i++) {
            sea.turbine(0, 2 * i, 0);
        }
        return sea;
    }

    static int hour(WakeBanks sea, int speed) {
        return sea.blow(1, 2, speed, 0, 0, 20000);
    }

    static void hours(WakeBanks sea, int hours, int speed) {
        for (int left = hours; left > 0; left -= 24) {
            sea.blow(Math.min(24, left), 2, speed, 0, 0, 20000);
        }
    }

    static void startAgain(WakeBanks sea, int turbine) {
        sea.call(turbine, false);
        sea.call(turbine, true);
    }

    /** A STARTING one RUNS whatever the SPEED is and whatever is worn. */
    static int hourFromStart(WakeBanks sea, int speed) {
        startAgain(sea, 0);
        return hour(sea, speed);
    }

    /** TURBINE 0 RUNS, and BLADES are worn beyond their LIMIT. */
    static WakeBanks worn() {
        WakeBanks sea = one();
        for (int i = 0; i < 7; i++) {
            hour(sea, i % 2 == 0 ? 3 : 25);
        }
        return sea;
    }

    static WakeBanks faulted() {
        WakeBanks sea = worn();
        hour(sea, 10);
        return sea;
    }

    static WakeBanks starting() {
        WakeBanks sea = one();
        startAgain(sea, 0);
        return sea;
    }

    static WakeBanks stoppedByItself() {
        WakeBanks sea = one();
        hour(sea, 26);
        return sea;
    }

    static WakeBanks stoppedByCall() {
        WakeBanks sea = one();
        sea.call(0, false);
        return sea;
    }

    /** The FLOOR is 10. */
    static WakeBanks stoppedOfPrice() {
        WakeBanks sea = one();
        sea.floor(10);
        sea.blow(1, 2, 10, 0, 9, 20000);
        return sea;
    }

    /** LOCKED by VESSEL 0, with LIMIT 20, which is at it. */
    static WakeBanks locked() {
        WakeBanks sea = one();
        sea.vessel(20);
        sea.sail(0, 0);
        sea.lock(0, true);
        return sea;
    }
}
