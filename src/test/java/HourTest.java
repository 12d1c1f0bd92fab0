/** Promise 6, blow: the steps of an HOUR, and the loads of section 4. */
public final class HourTest {
    private static final Check CHECK = new Check();

    private HourTest() {
    }

    public static void main(String[] args) {
        CHECK.part("promise 6");
        arguments();
        powers();
        startsAndStops();
        floorStops();
        faults();
        causeIsTheSmallestPart();
        wakesFirst();
        lossOfStates();
        lossOfTurn();
        strongWindIsNoGain();
        cables();
        orders();
        onesWithNothingGiveNothing();
        money();
        wears();
        windChangesOfStanding();
        extremes();
        extremesOfThree();
        extremesAtMost();
        wearAtMost();
        CHECK.end("HourTest");
    }

    private static WakeBanks one() {
        WakeBanks sea = new WakeBanks();
        sea.string(9999);
        sea.turbine(10, 10, 0);
        return sea;
    }

    private static int hour(WakeBanks sea, int speed) {
        return sea.blow(1, 0, speed, 0, 0, 20000);
    }

    private static void arguments() {
        WakeBanks sea = one();
        CHECK.refused(sea, IllegalArgumentException.class,
                () -> sea.blow(0, 0, 10, 0, 0, 20000), () -> sea.blow(25, 0, 10, 0, 0, 20000),
                () -> sea.blow(1, -1, 10, 0, 0, 20000), () -> sea.blow(1, 8, 10, 0, 0, 20000),
                () -> sea.blow(1, 0, -1, 0, 0, 20000), () -> sea.blow(1, 0, 31, 0, 0, 20000),
                () -> sea.blow(1, 0, 10, -1, 0, 20000), () -> sea.blow(1, 0, 10, 61, 0, 20000),
                () -> sea.blow(1, 0, 10, 0, -51, 20000), () -> sea.blow(1, 0, 10, 0, 201, 20000),
                () -> sea.blow(1, 0, 10, 0, 0, -1), () -> sea.blow(1, 0, 10, 0, 0, 20001));
        CHECK.same("the greatest", sea.blow(24, 7, 30, 60, 200, 20000), 0);
        CHECK.same("the smallest", sea.blow(1, 0, 0, 0, -50, 0), 0);
        CHECK.same("HOUR", sea.many(3), 25);
    }

    private static void powers() {
        int[] speeds = {2, 3, 4, 5, 12, 13, 25, 26, 30};
        int[] due = {0, 0, 64, 125, 1728, 2000, 2000, 0, 0};
        for (int i = 0; i < speeds.length; i++) {
            WakeBanks sea = one();
            CHECK.same("POWER at " + speeds[i], hour(sea, speeds[i]), due[i]);
            CHECK.same("POTENTIAL at " + speeds[i], sea.many(7), due[i]);
            CHECK.same("latest", sea.many(13), due[i]);
        }
        CHECK.same("the sum of HOURS", one().blow(5, 0, 10, 0, 0, 20000), 5000);
    }

    private static void startsAndStops() {
        int[][] speedAndState = {
            {3, 2}, {2, 0}, {3, 0}, {4, 1}, {30, 2}, {25, 2}, {26, 0}, {23, 0}, {22, 1},
            {0, 2}, {2, 0}, {30, 0}, {10, 1}, {10, 2},
        };
        WakeBanks sea = one();
        for (int i = 0; i < speedAndState.length; i++) {
            hour(sea, speedAndState[i][0]);
            CHECK.same("STATE after row " + i, sea.ofTurbine(0, 0), speedAndState[i][1]);
            CHECK.same("STOPPED by itself", sea.ofTurbine(0, 9), 0);
        }
        CHECK.same("lost while it stood", sea.lost(0, 1), 64 + 2000 + 2000 + 1000);
        CHECK.same("DELIVERED", sea.many(8), 2000 + 1000);
    }

    private static void floorStops() {
        WakeBanks sea = one();
        sea.floor(10);
        CHECK.same("at the FLOOR", sea.blow(1, 0, 10, 0, 10, 20000), 1000);
        CHECK.same("below", sea.blow(1, 0, 10, 0, 9, 20000), 0);
        CHECK.same("STATE", sea.ofTurbine(0, 0), 0);
        CHECK.same("of a price", sea.ofTurbine(0, 9), 2);
        sea.blow(1, 0, 30, 0, 9, 20000);
        CHECK.same("of a price still", sea.ofTurbine(0, 9), 2);
        CHECK.same("lost to CALL", sea.lost(0, 4), 1000);
        CHECK.same("not below", sea.blow(1, 0, 30, 0, 10, 20000), 0);
        CHECK.same("STARTING in any wind", sea.ofTurbine(0, 0), 1);
        CHECK.same("of none", sea.ofTurbine(0, 9), 0);
        sea.blow(1, 0, 10, 0, 9, 20000);
        CHECK.same("STARTING is not stopped", sea.ofTurbine(0, 0), 2);
        sea.blow(1, 0, 26, 0, 9, 20000);
        CHECK.same("the price goes ahead of the storm", sea.ofTurbine(0, 9), 2);
    }

    private static void blowLong(WakeBanks sea, int hours, int speed) {
        for (int left = hours; left > 0; left -= 24) {
            sea.blow(Math.min(24, left), 0, speed, 0, 0, 20000);
        }
    }

    private static void faults() {
        WakeBanks gear = one();
        blowLong(gear, 75, 13);
        CHECK.same("GEAR", gear.wear(0, 0), 150);
        CHECK.same("it RUNS", gear.ofTurbine(0, 0), 2);
        CHECK.same("faulted", hour(gear, 13), 0);
        CHECK.same("STATE", gear.ofTurbine(0, 0), 3);
        CHECK.same("GEAR is the CAUSE", gear.ofTurbine(0, 7), 0);
        CHECK.same("lost to FAULT", gear.lost(0, 2), 2000);
        CHECK.same("FAULTED ones", gear.many(5), 1);
        CHECK.same("worn no more", gear.wear(0, 0), 150);
        WakeBanks pitch = one();
        blowLong(pitch, 118, 10);
        CHECK.same("PITCH", pitch.wear(0, 1), 120);
        CHECK.same("it RUNS", pitch.ofTurbine(0, 0), 2);
        CHECK.same("no CAUSE", pitch.ofTurbine(0, 7), -1);
        hour(pitch, 10);
        CHECK.same("PITCH is the CAUSE", pitch.ofTurbine(0, 7), 1);
        WakeBanks blades = one();
        blades.turn(0, -2);
        blowLong(blades, 100, 10);
        CHECK.same("BLADES", blades.wear(0, 2), 200);
        CHECK.same("it RUNS", blades.ofTurbine(0, 0), 2);
        hour(blades, 26);
        CHECK.same("a storm goes ahead of a fault", blades.ofTurbine(0, 0), 0);
        hour(blades, 10);
        hour(blades, 10);
        CHECK.same("a STARTING one RUNS", blades.ofTurbine(0, 0), 2);
        hour(blades, 10);
        CHECK.same("BLADES are the CAUSE", blades.ofTurbine(0, 7), 2);
        hour(blades, 10);
        CHECK.same("FAULTED for good", blades.ofTurbine(0, 0), 3);
        WakeBanks exact = one();
        exact.turn(0, 2);
        blowLong(exact, 99, 10);
        exact.turn(0, 1);
        hour(exact, 10);
        CHECK.same("BLADES", exact.wear(0, 2), 199);
        hour(exact, 10);
        CHECK.same("it RUNS", exact.ofTurbine(0, 0), 2);
        CHECK.same("BLADES", exact.wear(0, 2), 200);
        hour(exact, 10);
        CHECK.same("BLADES at the LIMIT", exact.ofTurbine(0, 7), 2);
    }

    private static void causeIsTheSmallestPart() {
        WakeBanks sea = one();
        for (int i = 0; i < 22; i++) {
            hour(sea, i % 2 == 0 ? 14 : 20);
        }
        blowLong(sea, 52, 20);
        hour(sea, 14);
        CHECK.same("GEAR", sea.wear(0, 0), 150);
        CHECK.same("PITCH", sea.wear(0, 1), 75 + 2 * 23);
        CHECK.same("it RUNS", sea.ofTurbine(0, 0), 2);
        hour(sea, 14);
        CHECK.same("the CAUSE", sea.ofTurbine(0, 7), 0);
    }

    private static void wakesFirst() {
        WakeBanks sea = one();
        sea.turbine(10, 8, 0);
        CHECK.same("1000 and 6 cubed", hour(sea, 10), 1216);
        CHECK.same("WIND", sea.ofTurbine(1, 2), 6);
        CHECK.same("lost to WAKE", sea.lost(1, 0), 784);
        CHECK.same("none of the first", sea.lost(0, 0), 0);
        sea.call(1, false);
        CHECK.same("1000", hour(sea, 10), 1000);
        CHECK.same("WAKE also of one that stands", sea.lost(1, 0), 1568);
        CHECK.same("CALL has the rest", sea.lost(1, 4), 216);
        CHECK.same("WIND of one that stands", sea.ofTurbine(1, 2), 6);
        sea.call(0, false);
        hour(sea, 10);
        CHECK.same("no WAKE of one that stands", sea.lost(1, 0), 1568);
        sea.call(0, true);
        hour(sea, 10);
        CHECK.same("STATES as they are then", sea.lost(1, 0), 1568 + 784);
        CHECK.same("POTENTIAL", sea.many(7), 8000);
        WakeBanks near = one();
        near.turbine(10, 9, 0);
        hour(near, 18);
        CHECK.same("18 times 61 hundredths, cut", near.ofTurbine(1, 2), 10);
    }

    private static void lossOfStates() {
        WakeBanks sea = one();
        sea.vessel(20);
        sea.sail(0, 0);
        sea.lock(0, true);
        hour(sea, 10);
        CHECK.same("LOCK", sea.lost(0, 3), 1000);
        sea.lock(0, false);
        hour(sea, 10);
        CHECK.same("STARTING", sea.lost(0, 1), 1000);
        sea.call(0, false);
        hour(sea, 10);
        CHECK.same("CALL", sea.lost(0, 4), 1000);
        int all = 0;
        for (int cause = 0; cause < 8; cause++) {
            all += sea.lost(0, cause);
        }
        CHECK.same("one CAUSE each", all, sea.many(7) - sea.many(8));
    }

    private static void lossOfTurn() {
        int[] turns = {-2, -1, 0, 1, 2};
        int[] due = {120, 30, 0, 30, 120};
        for (int i = 0; i < turns.length; i++) {
            WakeBanks sea = one();
            sea.turn(0, turns[i]);
            CHECK.same("TURN " + turns[i], hour(sea, 10), 1000 - due[i]);
            CHECK.same("lost to TURN", sea.lost(0, 5), due[i]);
            sea.call(0, false);
            hour(sea, 10);
            CHECK.same("none if it stands", sea.lost(0, 5), due[i]);
        }
        WakeBanks sea = one();
        sea.turbine(10, 6, 0);
        sea.turn(1, 1);
        hour(sea, 10);
        CHECK.same("of what is left by the WAKE, cut", sea.lost(1, 5), 10);
    }

    private static void strongWindIsNoGain() {
        WakeBanks sea = one();
        sea.turbine(10, 9, 0);
        sea.call(0, false);
        sea.call(1, false);
        sea.call(0, true);
        sea.call(1, true);
        CHECK.same("above 25 none is made", hour(sea, 30), 0);
        CHECK.same("WIND of 30 less 39 hundredths", sea.ofTurbine(1, 2), 18);
        CHECK.same("none is lost", sea.lost(1, 0), 0);
        CHECK.same("DELIVERED", sea.ofTurbine(1, 3), 0);
    }

    private static WakeBanks two(int rating) {
        WakeBanks sea = new WakeBanks();
        sea.string(rating);
        sea.turbine(0, 0, 0);
        sea.turbine(0, 19, 0);
        return sea;
    }

    private static void cables() {
        WakeBanks sea = two(1501);
        CHECK.same("at the LIMIT", sea.blow(1, 2, 20, 0, 0, 20000), 1501);
        CHECK.same("1 more of the smallest", sea.lost(0, 6), 1250);
        CHECK.same("the other", sea.lost(1, 6), 1249);
        CHECK.same("DELIVERED", sea.ofTurbine(0, 3), 750);
        CHECK.same("DELIVERED", sea.ofTurbine(1, 3), 751);
        CHECK.same("HEAT", sea.ofString(0, 1), 375);
        CHECK.same("LIMIT", sea.ofString(0, 2), 1464);
        CHECK.same("through", sea.ofString(0, 3), 1501);
        CHECK.same("the LIMIT of now", sea.blow(1, 2, 20, 0, 0, 20000), 1464);
        CHECK.same("HEAT", sea.ofString(0, 1), (3 * 375 + 1464) / 4);
        sea.blow(1, 2, 0, 0, 0, 20000);
        CHECK.same("HEAT falls", sea.ofString(0, 1), 3 * 647 / 4);
        CHECK.same("through", sea.ofString(0, 3), 0);
        WakeBanks fits = two(2000);
        CHECK.same("it fits", fits.blow(1, 2, 10, 0, 0, 20000), 2000);
        CHECK.same("none is lost", fits.lost(0, 6), 0);
        CHECK.same("HEAT also if it fits", fits.ofString(0, 1), 500);
        CHECK.same("LIMIT", fits.ofString(0, 2), 1950);
        WakeBanks uneven = two(1000);
        uneven.turn(0, 2);
        uneven.blow(1, 2, 10, 0, 0, 20000);
        CHECK.same("in proportion", uneven.lost(0, 6), 880 * 880 / 1880 + 1);
        CHECK.same("in proportion", uneven.lost(1, 6), 1000 * 880 / 1880);
    }

    private static void orders() {
        WakeBanks sea = two(1500);
        CHECK.same("ORDER", sea.blow(1, 2, 20, 0, 0, 999), 999);
        CHECK.same("501 of 1500", sea.lost(0, 7), 251);
        CHECK.same("the other", sea.lost(1, 7), 250);
        CHECK.same("through, ahead of the ORDER", sea.ofString(0, 3), 1500);
        CHECK.same("HEAT, ahead of the ORDER", sea.ofString(0, 1), 375);
        CHECK.same("DELIVERED", sea.ofTurbine(0, 3), 499);
        CHECK.same("ORDER 0", sea.blow(1, 2, 20, 0, 0, 0), 0);
        CHECK.same("all is lost", sea.lost(0, 7), 251 + 732 - 1);
        CHECK.same("all is lost", sea.lost(1, 7), 250 + 732);
        WakeBanks last = two(9999);
        CHECK.same("ORDER 1", last.blow(1, 2, 10, 0, 0, 1), 1);
        CHECK.same("the last 1 is given up, too", last.ofTurbine(0, 3), 0);
        CHECK.same("1 is left", last.ofTurbine(1, 3), 1);
        CHECK.same("through", last.ofString(0, 3), 2000);
        WakeBanks over = two(9999);
        over.string(9999);
        over.turbine(19, 10, 1);
        CHECK.same("over all STRINGS", over.blow(1, 2, 10, 0, 0, 2000), 2000);
        CHECK.same("334", over.lost(0, 7), 334);
        CHECK.same("333", over.lost(1, 7), 333);
        CHECK.same("333", over.lost(2, 7), 333);
        CHECK.same("it fits", over.blow(1, 2, 10, 0, 0, 3000), 3000);
        CHECK.same("none more", over.lost(0, 7), 334);
    }

    private static void onesWithNothingGiveNothing() {
        WakeBanks sea = two(9999);
        sea.turbine(19, 10, 0);
        sea.call(0, false);
        sea.blow(1, 2, 10, 0, 0, 1999);
        CHECK.same("it has nothing", sea.lost(0, 7), 0);
        CHECK.same("1 more", sea.lost(1, 7), 1);
        CHECK.same("none", sea.lost(2, 7), 0);
        WakeBanks cable = two(1999);
        cable.turbine(19, 10, 0);
        cable.call(0, false);
        cable.blow(1, 2, 10, 0, 0, 20000);
        CHECK.same("it has nothing", cable.lost(0, 6), 0);
        CHECK.same("1 more", cable.lost(1, 6), 1);
    }

    private static void money() {
        WakeBanks sea = one();
        sea.blow(1, 0, 5, 0, 199, 20000);
        CHECK.same("125 times 199", sea.many(9), 248);
        sea.blow(1, 0, 5, 0, -50, 20000);
        CHECK.same("cut towards 0", sea.many(9), 248 - 62);
        sea.nominate(3, 200);
        sea.blow(1, 0, 5, 0, 100, 20000);
        CHECK.same("75 too few", sea.many(9), 186 + 125 - 15);
        sea.nominate(4, 0);
        sea.blow(1, 0, 5, 0, 100, 20000);
        CHECK.same("NOMINATED 0", sea.many(9), 296 + 125 - 25);
        CHECK.same("DELIVERED", sea.many(8), 500);
    }

    private static void wears() {
        WakeBanks sea = one();
        hour(sea, 12);
        wear(sea, 1, 3, 0);
        hour(sea, 13);
        wear(sea, 3, 4, 0);
        hour(sea, 9);
        wear(sea, 4, 5, 0);
        hour(sea, 4);
        wear(sea, 5, 8, 0);
        sea.turn(0, -2);
        hour(sea, 4);
        wear(sea, 6, 9, 2);
        sea.turn(0, 1);
        hour(sea, 4);
        wear(sea, 7, 10, 3);
        hour(sea, 26);
        wear(sea, 7, 10, 3);
    }

    private static void wear(WakeBanks sea, int gear, int pitch, int blades) {
        CHECK.same("GEAR", sea.wear(0, 0), gear);
        CHECK.same("PITCH", sea.wear(0, 1), pitch);
        CHECK.same("BLADES", sea.wear(0, 2), blades);
    }

    private static void windChangesOfStanding() {
        WakeBanks sea = one();
        hour(sea, 4);
        CHECK.same("4 from 0", sea.wear(0, 1), 1);
        sea.call(0, false);
        hour(sea, 20);
        CHECK.same("it stands", sea.wear(0, 1), 1);
        sea.call(0, true);
        hour(sea, 22);
        CHECK.same("22 from 20", sea.wear(0, 1), 2);
        hour(sea, 17);
        CHECK.same("17 from 22", sea.wear(0, 1), 5);
        sea.turbine(0, 0, 0);
        hour(sea, 17);
        CHECK.same("its own first HOUR", sea.wear(1, 1), 3);
        CHECK.same("the other goes on", sea.wear(0, 1), 6);
    }

    private static void extremes() {
        WakeBanks sea = one();
        row(sea, 10, 0, 10);
        row(sea, 10, 0, 10);
        row(sea, 14, 0, 10, 14);
        row(sea, 15, 0, 10, 15);
        row(sea, 13, 0, 10, 15, 13);
        row(sea, 12, 0, 10, 15, 12);
        row(sea, 12, 0, 10, 15, 12);
        row(sea, 14, 0, 10, 15, 12, 14);
        row(sea, 13, 0, 10, 15, 12, 14, 13);
        // 5 takes the place of 13; CYCLES are 12 to 14 (2), then 10 to 15 (5) of which 10 goes
        row(sea, 5, 4 / 10 + 25 / 10, 15, 5);
        CHECK.same("CYCLES", sea.many(12), 2);
        CHECK.same("BLADES", sea.wear(0, 2), 2);
        CHECK.same("GEAR as ever", sea.wear(0, 0), 15);
    }

    private static void row(WakeBanks sea, int speed, int damage, int... due) {
        hour(sea, speed);
        CHECK.same("EXTREMES at " + speed, sea.ofTurbine(0, 6), due.length);
        for (int k = 0; k < due.length && k < sea.ofTurbine(0, 6); k++) {
            CHECK.same("EXTREME " + k + " at " + speed, sea.extreme(0, k), due[k]);
        }
        CHECK.same("DAMAGE at " + speed, sea.ofTurbine(0, 5), damage);
    }

    private static void extremesOfThree() {
        WakeBanks sea = one();
        row(sea, 10, 0, 10);
        row(sea, 20, 0, 10, 20);
        row(sea, 11, 0, 10, 20, 11);
        row(sea, 20, 8, 10, 20);
        CHECK.same("one CYCLE", sea.many(12), 1);
        row(sea, 10, 18, 20, 10);
        row(sea, 21, 28, 10, 21);
        CHECK.same("three CYCLES", sea.many(12), 3);
        CHECK.same("BLADES", sea.wear(0, 2), 28);
    }

    /** Puts any WIND to the row: one that is STARTING RUNS whatever the SPEED. */
    private static void hourFromStart(WakeBanks sea, int speed) {
        sea.call(0, false);
        sea.call(0, true);
        hour(sea, speed);
    }

    private static void extremesAtMost() {
        WakeBanks sea = one();
        for (int i = 0; i < 30; i++) {
            hourFromStart(sea, i % 2 == 0 ? i / 2 : 30 - i / 2);
            CHECK.same("EXTREMES", sea.ofTurbine(0, 6), i + 1);
        }
        CHECK.same("the first", sea.extreme(0, 0), 0);
        CHECK.same("the last", sea.extreme(0, 29), 16);
        hourFromStart(sea, 15);
        CHECK.same("at most 30", sea.ofTurbine(0, 6), 30);
        CHECK.same("the first went", sea.extreme(0, 0), 30);
        CHECK.same("the last", sea.extreme(0, 29), 15);
        CHECK.same("no CYCLE", sea.many(12), 0);
        CHECK.refused(sea, IndexOutOfBoundsException.class, () -> sea.extreme(0, 30));
        hourFromStart(sea, 0);
        // 0 takes the place of 15, behind 16: then each two ahead of it are a CYCLE, down to 30, 0
        CHECK.same("the row", sea.ofTurbine(0, 6), 2);
        CHECK.same("the row", sea.extreme(0, 0), 30);
        CHECK.same("the row", sea.extreme(0, 1), 0);
        CHECK.same("CYCLES", sea.many(12), 14);
    }

    private static void wearAtMost() {
        WakeBanks sea = one();
        for (int i = 0; i < 114; i++) {
            hourFromStart(sea, i % 2 == 0 ? 30 : 0);
        }
        CHECK.same("DAMAGE", sea.ofTurbine(0, 5), 112 * 90);
        CHECK.same("BLADES", sea.wear(0, 2), 9999);
        CHECK.same("PITCH", sea.wear(0, 1), 3 * 114);
    }
}
