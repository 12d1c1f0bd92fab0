/** The edges of promise 6, blow: steps 3 to 6 of an HOUR, cables, ORDER, MONEY and WEAR. */
public final class EdgeYieldTest {
    private static final Check CHECK = new Check();

    private EdgeYieldTest() {
    }

    public static void main(String[] args) {
        moreThanTheLimit();
        sharesAreCut();
        smallestNumbersGiveMore();
        smallestNumbersOfTheString();
        nothingLeftGivesNothing();
        stringByString();
        limitIsLessATenthOfHeat();
        limitOfTheHourBefore();
        heatIsCut();
        moreThanTheOrder();
        orderOfNothing();
        orderOfOne();
        orderOverAllStrings();
        orderAfterTheCable();
        moneyTowardsZero();
        moneyOfWhatIsNominated();
        gearAboveTwelve();
        pitchByFive();
        pitchWhetherItRan();
        pitchAheadOfItsFirstHour();
        bladesByTurn();
        onlyRunningOnesWear();
        wearAtMost();
        CHECK.end("EdgeYieldTest");
    }

    private static void lost(WakeBanks sea, int cause, int... due) {
        for (int i = 0; i < due.length; i++) {
            CHECK.same("lost of " + i, sea.lost(i, cause), due[i]);
        }
    }

    /** Step 3: "if more is left of its TURBINES together than its LIMIT". */
    private static void moreThanTheLimit() {
        CHECK.part("promise 6, step 3: more than its LIMIT");
        WakeBanks fits = Seas.apart(2000, 2);
        CHECK.same("as much as the LIMIT", Seas.hour(fits, 10), 2000);
        lost(fits, 6, 0, 0);
        CHECK.same("through", fits.ofString(0, 3), 2000);
        WakeBanks less = Seas.apart(2001, 2);
        CHECK.same("1 less", Seas.hour(less, 10), 2000);
        lost(less, 6, 0, 0);
        WakeBanks more = Seas.apart(1999, 2);
        CHECK.same("1 more", Seas.hour(more, 10), 1999);
        lost(more, 6, 1, 0);
        CHECK.same("through", more.ofString(0, 3), 1999);
        CHECK.same("the smallest RATING", Seas.hour(Seas.apart(100, 1), 25), 100);
        CHECK.same("just above it", Seas.hour(Seas.apart(124, 1), 5), 124);
        CHECK.same("the greatest RATING", Seas.hour(Seas.apart(9999, 8), 25), 9999);
    }

    /** Step 3: "what is left times what is too much, divided by what is left of all (cut)". */
    private static void sharesAreCut() {
        CHECK.part("promise 6, step 3: shares");
        WakeBanks even = Seas.apart(1500, 2);
        Seas.hour(even, 10);
        lost(even, 6, 250, 250);
        WakeBanks uneven = Seas.apart(1000, 3);
        uneven.turn(1, 1);
        uneven.turn(2, -2);
        // 1000, 970 and 880 are 2850, 1850 of them too much: 649.12, 629.64, 571.22
        Seas.hour(uneven, 10);
        lost(uneven, 6, 650, 629, 571);
        CHECK.same("DELIVERED", uneven.ofTurbine(0, 3), 350);
        CHECK.same("DELIVERED", uneven.ofTurbine(1, 3), 341);
        CHECK.same("DELIVERED", uneven.ofTurbine(2, 3), 309);
    }

    /** Step 3: "and those with the smallest numbers 1 more each, till it fits". */
    private static void smallestNumbersGiveMore() {
        CHECK.part("promise 6, step 3: 1 more each");
        for (int tooMuch = 0; tooMuch <= 8; tooMuch++) {
            WakeBanks sea = Seas.apart(8 * 512 - tooMuch, 8);
            CHECK.same("it fits", Seas.hour(sea, 8), 8 * 512 - tooMuch);
            for (int i = 0; i < 8; i++) {
                CHECK.same("of " + tooMuch + " lost of " + i, sea.lost(i, 6),
                        i < tooMuch ? 1 : 0);
            }
        }
    }

    /** Step 3: the smallest numbers of those that are on this STRING. */
    private static void smallestNumbersOfTheString() {
        CHECK.part("promise 6, step 3: 1 more each, of its TURBINES");
        WakeBanks sea = Seas.at(9999);
        sea.string(2998);
        for (int i = 0; i < 6; i++) {
            sea.turbine(0, 2 * i, i % 2 == 0 ? 0 : 1);
        }
        CHECK.same("blow", Seas.hour(sea, 10), 3000 + 2998);
        lost(sea, 6, 0, 1, 0, 1, 0, 0);
    }

    /** Step 3: "(one that has nothing left gives up nothing)". */
    private static void nothingLeftGivesNothing() {
        CHECK.part("promise 6, step 3: nothing left");
        WakeBanks stopped = Seas.apart(1998, 4);
        stopped.call(0, false);
        stopped.call(2, false);
        Seas.hour(stopped, 10);
        lost(stopped, 6, 0, 1, 0, 1);
        // number 0 RUNS in the WAKE of number 1, in too little WIND; 1 and 2 make 64 each
        WakeBanks weak = Seas.at(127, 10, 9, 10, 10, 0, 0);
        CHECK.same("blow", weak.blow(1, 0, 4, 0, 0, 20000), 127);
        CHECK.same("it RUNS", weak.ofTurbine(0, 0), 2);
        lost(weak, 6, 0, 1, 0);
        CHECK.same("and nothing of nothing", Seas.hour(Seas.apart(100, 2), 3), 0);
    }

    /** Step 3: "STRING by STRING". */
    private static void stringByString() {
        CHECK.part("promise 6, step 3: STRING by STRING");
        WakeBanks sea = Seas.at(100);
        sea.string(1000);
        sea.string(999);
        for (int i = 0; i < 3; i++) {
            sea.turbine(0, 2 * i, 2 - i);
        }
        CHECK.same("blow", Seas.hour(sea, 10), 2099);
        lost(sea, 6, 1, 0, 900);
        CHECK.same("through", sea.ofString(0, 3), 100);
        CHECK.same("through", sea.ofString(1, 3), 1000);
        CHECK.same("through", sea.ofString(2, 3), 999);
    }

    private static void heat(WakeBanks sea, int speed, int heat, int limit) {
        Seas.hour(sea, speed);
        CHECK.same("HEAT", sea.ofString(0, 1), heat);
        CHECK.same("LIMIT", sea.ofString(0, 2), limit);
    }

    /** Step 3: "its LIMIT, which is RATING less a tenth of HEAT" (cut). */
    private static void limitIsLessATenthOfHeat() {
        CHECK.part("promise 6, step 3: LIMIT");
        WakeBanks nine = Seas.apart(500, 1);
        CHECK.same("HEAT 0", nine.ofString(0, 2), 500);
        heat(nine, 4, 16, 499);
        heat(nine, 3, 12, 499);
        heat(nine, 3, 9, 500);
        heat(nine, 3, 6, 500);
        WakeBanks ten = Seas.apart(500, 1);
        int[] heats = {85, 63, 47, 35, 26, 19, 14, 10, 7};
        for (int i = 0; i < heats.length; i++) {
            heat(ten, i == 0 ? 7 : 3, heats[i], 500 - heats[i] / 10);
        }
    }

    /** Step 3: the LIMIT is that of the HEAT ahead of this HOUR. */
    private static void limitOfTheHourBefore() {
        CHECK.part("promise 6, step 3: LIMIT, then HEAT");
        WakeBanks sea = Seas.apart(100, 1);
        int heat = 0;
        for (int i = 0; i < 60; i++) {
            int limit = 100 - heat / 10;
            CHECK.same("blow", Seas.hour(sea, 10), limit);
            heat = (3 * heat + limit) / 4;
            CHECK.same("HEAT", sea.ofString(0, 1), heat);
        }
        CHECK.that("it is hot", heat > 80);
    }

    /** Step 3: "in each HOUR, HEAT is the sum of 3 times HEAT and what is left, divided by 4". */
    private static void heatIsCut() {
        CHECK.part("promise 6, step 3: HEAT");
        WakeBanks sea = Seas.apart(9999, 1);
        heat(sea, 4, 16, 9998);
        heat(sea, 4, 28, 9997);
        heat(sea, 4, 37, 9996);
        heat(sea, 3, 27, 9997);
        heat(sea, 3, 20, 9997);
        sea.call(0, false);
        heat(sea, 10, 15, 9998);
        heat(sea, 10, 11, 9998);
        heat(sea, 10, 8, 9999);
        heat(sea, 10, 6, 9999);
        heat(sea, 10, 4, 9999);
        heat(sea, 10, 3, 9999);
        heat(sea, 10, 2, 9999);
        heat(sea, 10, 1, 9999);
        heat(sea, 10, 0, 9999);
        heat(sea, 10, 0, 9999);
    }

    /** Step 4: "The ORDER, likewise": as much as it, 1 more, and the greatest. */
    private static void moreThanTheOrder() {
        CHECK.part("promise 6, step 4: more than the ORDER");
        for (int tooMuch = -1; tooMuch <= 8; tooMuch++) {
            WakeBanks sea = Seas.apart(9999, 8);
            int due = Math.min(8 * 512, 8 * 512 - tooMuch);
            CHECK.same("it fits", sea.blow(1, 2, 8, 0, 0, 8 * 512 - tooMuch), due);
            CHECK.same("latest", sea.many(13), due);
            for (int i = 0; i < 8; i++) {
                CHECK.same("of " + tooMuch + " lost of " + i, sea.lost(i, 7),
                        i < tooMuch ? 1 : 0);
                CHECK.same("DELIVERED of " + i, sea.ofTurbine(i, 3), i < tooMuch ? 511 : 512);
            }
        }
        WakeBanks most = Seas.at(9999);
        most.string(9999);
        for (int i = 0; i < 8; i++) {
            most.turbine(0, 2 * i, i % 2);
        }
        CHECK.same("16000 are below 20000", Seas.hour(most, 25), 16000);
    }

    /** Step 4: an ORDER of 0. */
    private static void orderOfNothing() {
        CHECK.part("promise 6, step 4: ORDER 0");
        WakeBanks sea = Seas.apart(9999, 3);
        sea.turn(1, 2);
        sea.call(2, false);
        CHECK.same("blow", sea.blow(1, 2, 10, 0, 200, 0), 0);
        lost(sea, 7, 1000, 880, 0);
        CHECK.same("DELIVERED", sea.ofTurbine(0, 3), 0);
        CHECK.same("MONEY", sea.many(9), 0);
        CHECK.same("through, ahead of the ORDER", sea.ofString(0, 3), 1880);
        CHECK.same("without wind", sea.blow(1, 2, 3, 0, 200, 0), 0);
        lost(sea, 7, 1000, 880, 0);
    }

    /** Step 4: an ORDER of 1: those that give up their last 1 have nothing left. */
    private static void orderOfOne() {
        CHECK.part("promise 6, step 4: ORDER 1");
        WakeBanks sea = Seas.apart(9999, 3);
        CHECK.same("blow", sea.blow(1, 2, 10, 0, 0, 1), 1);
        lost(sea, 7, 1000, 1000, 999);
        WakeBanks two = Seas.apart(9999, 3);
        CHECK.same("blow", two.blow(1, 2, 10, 0, 0, 2), 2);
        lost(two, 7, 1000, 999, 999);
        WakeBanks gap = Seas.apart(9999, 3);
        gap.call(0, false);
        CHECK.same("blow", gap.blow(1, 2, 10, 0, 0, 1), 1);
        lost(gap, 7, 0, 1000, 999);
    }

    /** Step 4: "over all TURBINES", whatever STRING they are on. */
    private static void orderOverAllStrings() {
        CHECK.part("promise 6, step 4: over all TURBINES");
        WakeBanks sea = Seas.at(9999);
        sea.string(9999);
        sea.string(9999);
        for (int i = 0; i < 3; i++) {
            sea.turbine(0, 2 * i, 2 - i);
        }
        CHECK.same("blow", sea.blow(1, 2, 10, 0, 0, 2000), 2000);
        lost(sea, 7, 334, 333, 333);
        lost(sea, 6, 0, 0, 0);
    }

    /** Step 4: of what the STRINGS have left, and HEAT does not ask for the ORDER. */
    private static void orderAfterTheCable() {
        CHECK.part("promise 6, step 4: after the STRINGS");
        WakeBanks sea = Seas.apart(1001, 2);
        CHECK.same("blow", sea.blow(1, 2, 10, 0, 0, 1000), 1000);
        // 999 too much: 499.5 each; 500 and 501 are left, 1 too much for the ORDER
        lost(sea, 6, 500, 499);
        lost(sea, 7, 1, 0);
        CHECK.same("through", sea.ofString(0, 3), 1001);
        CHECK.same("HEAT", sea.ofString(0, 1), 250);
        WakeBanks same = Seas.apart(1000, 2);
        CHECK.same("the LIMIT is the ORDER", same.blow(1, 2, 10, 0, 0, 1000), 1000);
        lost(same, 7, 0, 0);
    }

    /** Step 5: "DELIVERED of all together times PRICE, divided by 100 (towards 0)". */
    private static void moneyTowardsZero() {
        CHECK.part("promise 6, step 5: MONEY");
        int[][] orderPriceMoney = {
            {1, 99, 0}, {1, 100, 1}, {1, 199, 1}, {1, 200, 2}, {1, -50, 0}, {2, -50, -1},
            {3, -50, -1}, {4, -50, -2}, {125, -1, -1}, {99, -1, 0}, {100, -1, -1}, {125, 0, 0},
            {0, 200, 0}, {0, -50, 0}, {125, 200, 250}, {125, -50, -62},
        };
        for (int[] row : orderPriceMoney) {
            WakeBanks sea = Seas.one();
            sea.blow(1, 2, 5, 0, row[1], row[0]);
            CHECK.same("MONEY of " + row[0] + " at " + row[1], sea.many(9), row[2]);
        }
        WakeBanks sum = Seas.apart(9999, 3);
        sum.blow(2, 2, 5, 0, -1, 20000);
        CHECK.same("of all together, of each HOUR", sum.many(9), -6);
    }

    /** Step 5: "the difference .. (without its sign), times 20, divided by 100, is MONEY less". */
    private static void moneyOfWhatIsNominated() {
        CHECK.part("promise 6, step 5: NOMINATED");
        int[][] muchMoney = {
            {125, 0}, {121, 0}, {120, -1}, {129, 0}, {130, -1}, {134, -1}, {135, -2}, {0, -25},
            {20000, -3975},
        };
        for (int[] row : muchMoney) {
            WakeBanks sea = Seas.one();
            sea.nominate(1, row[0]);
            Seas.hour(sea, 5);
            CHECK.same("MONEY for " + row[0], sea.many(9), row[1]);
        }
        WakeBanks zero = Seas.one();
        zero.nominate(1, 0);
        Seas.hour(zero, 3);
        CHECK.same("0 for 0", zero.many(9), 0);
        WakeBanks both = Seas.one();
        both.nominate(1, 128);
        both.blow(1, 2, 5, 0, -50, 20000);
        CHECK.same("each is cut by itself: 62.5 and 0.6", both.many(9), -62);
        WakeBanks none = Seas.one();
        none.blow(1, 2, 5, 0, 100, 20000);
        CHECK.same("nothing was NOMINATED", none.many(9), 125);
    }

    private static void wear(WakeBanks sea, int part, int due) {
        CHECK.same("WEAR", sea.wear(0, part), due);
    }

    /** Step 6: "WEAR of GEAR is 1 more, and 1 more if the WIND is above 12". */
    private static void gearAboveTwelve() {
        CHECK.part("promise 6, step 6: GEAR");
        int[][] speedGear = {{3, 1}, {11, 1}, {12, 1}, {13, 2}, {25, 2}};
        for (int[] row : speedGear) {
            WakeBanks sea = Seas.one();
            Seas.hour(sea, row[0]);
            wear(sea, 0, row[1]);
        }
        WakeBanks calm = Seas.starting();
        Seas.hour(calm, 0);
        wear(calm, 0, 1);
        // of the SPEED 20 the WAKE leaves 12
        WakeBanks inWake = Seas.at(9999, 10, 9, 10, 10);
        inWake.blow(1, 0, 20, 0, 0, 20000);
        CHECK.same("WIND", inWake.ofTurbine(0, 2), 12);
        wear(inWake, 0, 1);
        CHECK.same("GEAR of the first one", inWake.wear(1, 0), 2);
    }

    /** Step 6: "of PITCH 1 more, and 2 more if the WIND changed by 5 or more". */
    private static void pitchByFive() {
        CHECK.part("promise 6, step 6: PITCH");
        WakeBanks sea = Seas.one();
        int[][] speedPitch = {
            {10, 3}, {14, 4}, {10, 5}, {15, 8}, {10, 11}, {10, 12}, {16, 15}, {12, 16}, {6, 19},
        };
        for (int[] row : speedPitch) {
            Seas.hour(sea, row[0]);
            wear(sea, 1, row[1]);
        }
    }

    /** Step 6: "since the HOUR before (whether it RAN then or not ..". */
    private static void pitchWhetherItRan() {
        CHECK.part("promise 6, step 6: PITCH, whether it RAN or not");
        WakeBanks sea = Seas.one();
        Seas.hour(sea, 10);
        wear(sea, 1, 3);
        sea.call(0, false);
        Seas.hour(sea, 20);
        wear(sea, 1, 3);
        sea.call(0, true);
        Seas.hour(sea, 16);
        wear(sea, 1, 4);
        sea.call(0, false);
        Seas.hour(sea, 21);
        sea.call(0, true);
        Seas.hour(sea, 16);
        wear(sea, 1, 7);
    }

    /** Step 6: ".. 0 ahead of its own first HOUR)". */
    private static void pitchAheadOfItsFirstHour() {
        CHECK.part("promise 6, step 6: PITCH ahead of its own first HOUR");
        WakeBanks four = Seas.one();
        Seas.hour(four, 4);
        wear(four, 1, 1);
        WakeBanks five = Seas.one();
        Seas.hour(five, 5);
        wear(five, 1, 3);
        WakeBanks late = Seas.apart(9999, 1);
        Seas.hours(late, 5, 10);
        late.turbine(0, 19, 0);
        Seas.hour(late, 10);
        CHECK.same("from 0 to 10", late.wear(1, 1), 3);
        CHECK.same("from 10 to 10", late.wear(0, 1), 3 + 5);
        late.turbine(0, 15, 0);
        Seas.hour(late, 4);
        CHECK.same("from 0 to 4", late.wear(2, 1), 1);
        CHECK.same("from 10 to 4", late.wear(1, 1), 6);
    }

    /** Step 6: "of BLADES as section 4 tells, and the TURN (without its sign) more". */
    private static void bladesByTurn() {
        CHECK.part("promise 6, step 6: BLADES");
        for (int turn = -2; turn <= 2; turn++) {
            WakeBanks sea = Seas.one();
            sea.turn(0, turn);
            Seas.hours(sea, 3, 10);
            wear(sea, 2, 3 * Math.abs(turn));
        }
        WakeBanks both = Seas.one();
        both.turn(0, -2);
        int[] speeds = {10, 20, 10};
        for (int speed : speeds) {
            Seas.hour(both, speed);
        }
        wear(both, 2, 10 + 6);
        CHECK.same("DAMAGE is without the TURN", both.ofTurbine(0, 5), 10);
    }

    /** Step 6: "RUNNING ones". */
    private static void onlyRunningOnesWear() {
        CHECK.part("promise 6, step 6: RUNNING ones");
        WakeBanks[] seas = {
            Seas.stoppedByItself(), Seas.stoppedByCall(), Seas.stoppedOfPrice(), Seas.faulted(),
            Seas.locked(),
        };
        for (WakeBanks sea : seas) {
            sea.turn(0, 2);
            int[] before = {sea.wear(0, 0), sea.wear(0, 1), sea.wear(0, 2)};
            sea.blow(1, 2, 22, 0, 9, 20000);
            for (int part = 0; part < 3; part++) {
                wear(sea, part, before[part]);
            }
        }
    }

    /** Step 6: "WEAR is 9999 at most"; DAMAGE goes beyond it. */
    private static void wearAtMost() {
        CHECK.part("promise 6, step 6: 9999 at most");
        WakeBanks sea = Seas.one();
        sea.turn(0, 1);
        for (int i = 0; i < 150; i++) {
            Seas.hourFromStart(sea, i % 2 == 0 ? 30 : 0);
            int damage = 90 * Math.max(0, i - 1);
            CHECK.same("DAMAGE", sea.ofTurbine(0, 5), damage);
            wear(sea, 2, Math.min(9999, damage + i + 1));
        }
        CHECK.same("GEAR is far from it", sea.wear(0, 0), 225);
    }
}
