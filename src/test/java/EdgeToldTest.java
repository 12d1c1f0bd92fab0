/** The edges that promises 1 to 5 name: a new object, and what is told. */
public final class EdgeToldTest {
    private static final Check CHECK = new Check();
    private static final int MIN = Integer.MIN_VALUE;
    private static final int MAX = Integer.MAX_VALUE;

    private EdgeToldTest() {
    }

    public static void main(String[] args) {
        nothingIsThere();
        noTurbinesInHours();
        tillAnHourCame();
        ratings();
        atMostThreeStrings();
        ratingAheadOfTooMany();
        noSuchString();
        places();
        oneIsThere();
        atMostEightTurbines();
        firstNamedOfTurbine();
        limits();
        atMostThreeVessels();
        limitAheadOfTooMany();
        hoursToNominate();
        hoursToNominateGoOn();
        howMuchIsNominated();
        inPlaceOfWhatWas();
        allThatAreToCome();
        CHECK.end("EdgeToldTest");
    }

    /** Promise 1: "Creates a sea without TURBINES", and without STRINGS and VESSELS. */
    private static void nothingIsThere() {
        CHECK.part("promise 1: nothing is there");
        WakeBanks sea = new WakeBanks();
        for (int what = 0; what <= 13; what++) {
            CHECK.same("many " + what, sea.many(what), 0);
        }
        CHECK.refused(sea, IndexOutOfBoundsException.class, () -> sea.turbine(0, 0, 0),
                () -> sea.turn(0, 0), () -> sea.call(0, true), () -> sea.sail(0, -1),
                () -> sea.lock(0, true), () -> sea.lock(0, false), () -> sea.climb(0, 0),
                () -> sea.down(0), () -> sea.ofTurbine(0, 0), () -> sea.wear(0, 0),
                () -> sea.lost(0, 0), () -> sea.wake(0, 0), () -> sea.extreme(0, 0),
                () -> sea.ofString(0, 0), () -> sea.ofVessel(0, 0), () -> sea.bestTurn(0));
        sea.vessel(5);
        CHECK.refused(sea, IndexOutOfBoundsException.class, () -> sea.sail(0, 0));
        CHECK.same("PORT is there", sea.sail(0, -1), -1);
    }

    /** Promise 1: a sea without TURBINES has HOURS, too, and nothing is divided by what is not. */
    private static void noTurbinesInHours() {
        CHECK.part("promise 1: HOURS without TURBINES");
        WakeBanks sea = Seas.at(100);
        sea.nominate(1, 5);
        CHECK.same("blow", sea.blow(1, 0, 25, 60, 200, 0), 0);
        CHECK.same("5 too few", sea.many(9), -1);
        CHECK.same("wouldDeliver", sea.wouldDeliver(24), 0);
        CHECK.same("meanDelivered", sea.meanDelivered(), 0.0);
        CHECK.same("POTENTIAL", sea.many(7), 0);
        CHECK.same("through", sea.ofString(0, 3), 0);
        CHECK.same("HOUR", sea.many(3), 1);
    }

    /** Promise 1: "HOUR is 0 ahead of all", "Till one came all are 0". */
    private static void tillAnHourCame() {
        CHECK.part("promise 1: till an HOUR came");
        WakeBanks sea = Seas.at(9999, 10, 10, 10, 9, 9, 10);
        CHECK.same("HOUR", sea.many(3), 0);
        CHECK.same("SECTOR 0", sea.wake(1, 0), 39);
        CHECK.same("not SECTOR 2", sea.wake(2, 0), 0);
        sea.vessel(5);
        sea.sail(0, 0);
        sea.lock(0, true);
        CHECK.same("WAVE 0 is not above LIMIT, HOUR 0 is night", sea.climb(0, 0), 5);
        CHECK.same("SPEED 0", sea.wouldDeliver(24), 0);
        CHECK.same("no FLOOR", sea.floor(-51), -51);
        CHECK.same("latest", sea.many(13), 0);
        CHECK.same("without POTENTIAL", sea.meanDelivered(), 0.0);
    }

    /** Promise 2: "if rating is not 100 to 9999". */
    private static void ratings() {
        CHECK.part("promise 2: RATING");
        WakeBanks sea = new WakeBanks();
        CHECK.refused(sea, IllegalArgumentException.class, () -> sea.string(99),
                () -> sea.string(10000), () -> sea.string(0), () -> sea.string(-100),
                () -> sea.string(MIN), () -> sea.string(MAX));
        CHECK.same("the smallest", sea.string(100), 0);
        CHECK.same("the greatest", sea.string(9999), 1);
        CHECK.same("RATING", sea.ofString(0, 0), 100);
        CHECK.same("RATING", sea.ofString(1, 0), 9999);
    }

    /** Promise 2: "if there are 3". */
    private static void atMostThreeStrings() {
        CHECK.part("promise 2: 3 STRINGS");
        WakeBanks sea = new WakeBanks();
        for (int i = 0; i < 3; i++) {
            CHECK.same("string", sea.string(100 + i), i);
            CHECK.same("many", sea.many(1), i + 1);
        }
        CHECK.refused(sea, IllegalStateException.class, () -> sea.string(100),
                () -> sea.string(9999));
    }

    /** Promise 2: "If several exceptions apply, the one that is named first is thrown." */
    private static void ratingAheadOfTooMany() {
        CHECK.part("promise 2: named first");
        WakeBanks sea = new WakeBanks();
        for (int i = 0; i < 3; i++) {
            sea.string(100);
        }
        CHECK.refused(sea, IllegalArgumentException.class, () -> sea.string(99),
                () -> sea.string(10000));
    }

    /** Promise 3: "if there is no such STRING". */
    private static void noSuchString() {
        CHECK.part("promise 3: no such STRING");
        WakeBanks sea = new WakeBanks();
        for (int strings = 1; strings <= 3; strings++) {
            sea.string(500);
            int next = strings;
            CHECK.refused(sea, IndexOutOfBoundsException.class, () -> sea.turbine(0, 0, next),
                    () -> sea.turbine(0, 0, -1), () -> sea.turbine(0, 0, MIN),
                    () -> sea.turbine(0, 0, MAX));
            CHECK.same("the last one", sea.turbine(5, strings, strings - 1), strings - 1);
        }
    }

    /** Promise 3: "if x or y is not 0 to 19". */
    private static void places() {
        CHECK.part("promise 3: x and y");
        WakeBanks sea = Seas.at(500);
        CHECK.refused(sea, IllegalArgumentException.class, () -> sea.turbine(-1, 5, 0),
                () -> sea.turbine(20, 5, 0), () -> sea.turbine(5, -1, 0),
                () -> sea.turbine(5, 20, 0), () -> sea.turbine(MIN, 5, 0),
                () -> sea.turbine(5, MIN, 0), () -> sea.turbine(MAX, 5, 0),
                () -> sea.turbine(5, MAX, 0));
        CHECK.same("a corner", sea.turbine(0, 0, 0), 0);
        CHECK.same("a corner", sea.turbine(19, 0, 0), 1);
        CHECK.same("a corner", sea.turbine(0, 19, 0), 2);
        CHECK.same("a corner", sea.turbine(19, 19, 0), 3);
    }

    /** Promise 3: "or one is there". */
    private static void oneIsThere() {
        CHECK.part("promise 3: one is there");
        WakeBanks sea = Seas.at(500, 3, 7, 19, 19);
        sea.string(500);
        CHECK.refused(sea, IllegalStateException.class, () -> sea.turbine(3, 7, 0),
                () -> sea.turbine(19, 19, 0), () -> sea.turbine(3, 7, 1));
        CHECK.same("x and y the other way round", sea.turbine(7, 3, 0), 2);
        CHECK.same("the same x", sea.turbine(3, 8, 0), 3);
        CHECK.same("the same y", sea.turbine(4, 7, 0), 4);
        CHECK.same("at the end of a row", sea.turbine(3, 19, 0), 5);
        // for these two 20 times x, and y, is 79, too
        CHECK.refused(sea, IllegalArgumentException.class, () -> sea.turbine(2, 39, 0),
                () -> sea.turbine(4, -1, 0));
    }

    /** Promise 3: "if there are 8". */
    private static void atMostEightTurbines() {
        CHECK.part("promise 3: 8 TURBINES");
        WakeBanks sea = Seas.at(500);
        for (int i = 0; i < 8; i++) {
            CHECK.same("turbine", sea.turbine(i, i, 0), i);
            CHECK.same("many", sea.many(0), i + 1);
        }
        CHECK.refused(sea, IllegalStateException.class, () -> sea.turbine(12, 3, 0),
                () -> sea.turbine(0, 0, 0));
    }

    /** Promise 3: "If several exceptions apply, the one that is named first is thrown." */
    private static void firstNamedOfTurbine() {
        CHECK.part("promise 3: named first");
        WakeBanks sea = Seas.apart(500, 8);
        CHECK.refused(sea, IndexOutOfBoundsException.class, () -> sea.turbine(20, 0, 1),
                () -> sea.turbine(0, -1, -1), () -> sea.turbine(0, 0, 1));
        CHECK.refused(sea, IllegalArgumentException.class, () -> sea.turbine(20, 0, 0),
                () -> sea.turbine(0, -1, 0));
    }

    /** Promise 4: "if limit is not 5 to 40". */
    private static void limits() {
        CHECK.part("promise 4: LIMIT");
        WakeBanks sea = new WakeBanks();
        CHECK.refused(sea, IllegalArgumentException.class, () -> sea.vessel(4),
                () -> sea.vessel(41), () -> sea.vessel(0), () -> sea.vessel(MIN),
                () -> sea.vessel(MAX));
        CHECK.same("the smallest", sea.vessel(5), 0);
        CHECK.same("the greatest", sea.vessel(40), 1);
        CHECK.same("in PORT", sea.ofVessel(1, 0), -1);
    }

    /** Promise 4: "if there are 3". */
    private static void atMostThreeVessels() {
        CHECK.part("promise 4: 3 VESSELS");
        WakeBanks sea = new WakeBanks();
        for (int i = 0; i < 3; i++) {
            CHECK.same("vessel", sea.vessel(5 + i), i);
            CHECK.same("many", sea.many(2), i + 1);
        }
        CHECK.refused(sea, IllegalStateException.class, () -> sea.vessel(5),
                () -> sea.vessel(40));
    }

    /** Promise 4: "If several exceptions apply, the one that is named first is thrown." */
    private static void limitAheadOfTooMany() {
        CHECK.part("promise 4: named first");
        WakeBanks sea = new WakeBanks();
        for (int i = 0; i < 3; i++) {
            sea.vessel(9);
        }
        CHECK.refused(sea, IllegalArgumentException.class, () -> sea.vessel(4),
                () -> sea.vessel(41));
    }

    /** Promise 5: "if hour is not HOUR and 1 to HOUR and 24", at HOUR 0. */
    private static void hoursToNominate() {
        CHECK.part("promise 5: HOURS");
        WakeBanks sea = Seas.one();
        CHECK.refused(sea, IllegalArgumentException.class, () -> sea.nominate(0, 5),
                () -> sea.nominate(25, 5), () -> sea.nominate(-1, 5), () -> sea.nominate(MIN, 5),
                () -> sea.nominate(MAX, 5));
        CHECK.same("HOUR and 24", sea.nominate(24, 1000), 1);
        CHECK.same("HOUR and 1", sea.nominate(1, 2000), 2);
        Seas.hour(sea, 10);
        CHECK.same("HOUR 1 is paid", sea.many(9), -200);
        CHECK.same("and is not to come", sea.many(10), 1);
        Seas.hours(sea, 22, 10);
        CHECK.same("HOUR 24 is to come", sea.many(10), 1);
        Seas.hour(sea, 4);
        CHECK.same("HOUR 24 is paid", sea.many(9), -200 - 936 * 20 / 100);
        CHECK.same("none is to come", sea.many(10), 0);
    }

    /** Promise 5: the same at later HOURS, over the end of a day. */
    private static void hoursToNominateGoOn() {
        CHECK.part("promise 5: later HOURS");
        WakeBanks sea = Seas.one();
        for (int hour = 0; hour < 60; hour += 5) {
            int now = hour;
            CHECK.refused(sea, IllegalArgumentException.class, () -> sea.nominate(now, 5),
                    () -> sea.nominate(now + 25, 5), () -> sea.nominate(now - 1, 5));
            int before = sea.many(10);
            CHECK.same("HOUR and 24", sea.nominate(now + 24, 1000), before + 1);
            CHECK.same("HOUR and 1", sea.nominate(now + 1, 1000), sea.many(10));
            Seas.hours(sea, 5, 10);
        }
        CHECK.same("as NOMINATED", sea.many(9), 0);
    }

    /** Promise 5: "or much not 0 to 20000". */
    private static void howMuchIsNominated() {
        CHECK.part("promise 5: how much");
        WakeBanks sea = Seas.one();
        CHECK.refused(sea, IllegalArgumentException.class, () -> sea.nominate(1, -1),
                () -> sea.nominate(1, 20001), () -> sea.nominate(1, MIN),
                () -> sea.nominate(1, MAX), () -> sea.nominate(25, -1));
        CHECK.same("the greatest", sea.nominate(1, 20000), 1);
        CHECK.same("the smallest", sea.nominate(2, 0), 2);
        Seas.hour(sea, 10);
        CHECK.same("19000 too few", sea.many(9), -3800);
        Seas.hour(sea, 10);
        CHECK.same("1000 too many: 0 is NOMINATED, too", sea.many(9), -4000);
        Seas.hour(sea, 10);
        CHECK.same("nothing is NOMINATED", sea.many(9), -4000);
    }

    /** Promise 5: "in place of what was". */
    private static void inPlaceOfWhatWas() {
        CHECK.part("promise 5: in place of what was");
        WakeBanks sea = Seas.one();
        sea.nominate(1, 0);
        CHECK.same("the same HOUR", sea.nominate(1, 20000), 1);
        CHECK.same("the same HOUR", sea.nominate(1, 1000), 1);
        CHECK.same("another one", sea.nominate(2, 1000), 2);
        CHECK.refused(sea, IllegalArgumentException.class, () -> sea.nominate(1, 20001));
        Seas.hour(sea, 10);
        CHECK.same("only the last one counts", sea.many(9), 0);
        CHECK.same("the HOUR that came stays away", sea.nominate(3, 1), 2);
    }

    /** Promise 5: "Returns how many HOURS that are to come are NOMINATED", up to all 24. */
    private static void allThatAreToCome() {
        CHECK.part("promise 5: all 24");
        WakeBanks sea = Seas.one();
        for (int hour = 24; hour >= 1; hour--) {
            CHECK.same("nominate", sea.nominate(hour, 100 * hour), 25 - hour);
        }
        int money = 0;
        for (int hour = 1; hour <= 24; hour++) {
            Seas.hour(sea, 10);
            money -= Math.abs(1000 - 100 * hour) * 20 / 100;
            CHECK.same("to come", sea.many(10), 24 - hour);
            CHECK.same("MONEY", sea.many(9), money);
        }
        CHECK.same("round again", sea.nominate(48, 7), 1);
        CHECK.same("the next", sea.nominate(25, 7), 2);
    }
}
