/** The edges that section 4 names: EXTREMES, CYCLES and DAMAGE (promises 6, 14, 18 and 21). */
public final class EdgeLoadsTest {
    private static final Check CHECK = new Check();

    private EdgeLoadsTest() {
    }

    public static void main(String[] args) {
        emptyRow();
        theLastOne();
        goesOn();
        otherwiseAdded();
        threeInTheRow();
        moreThanThree();
        asLongAs();
        onlyAsFarAsItHolds();
        damageIsCut();
        damageIsPutToBlades();
        onlyThatRuns();
        itsOwnWind();
        thirtyAtMost();
        inPlaceOfTheThirtieth();
        firstGoesAheadOfCycles();
        CHECK.end("EdgeLoadsTest");
    }

    /** Puts these WINDS to the row of TURBINE 0, which RUNS in each of these HOURS. */
    private static void put(WakeBanks sea, int... winds) {
        for (int wind : winds) {
            Seas.hourFromStart(sea, wind);
            CHECK.same("WIND", sea.ofTurbine(0, 2), wind);
        }
    }

    private static void row(WakeBanks sea, int... due) {
        CHECK.same("how many", sea.ofTurbine(0, 6), due.length);
        for (int k = 0; k < due.length && k < sea.ofTurbine(0, 6); k++) {
            CHECK.same("EXTREME " + k, sea.extreme(0, k), due[k]);
        }
        CHECK.refused(sea, IndexOutOfBoundsException.class, () -> sea.extreme(0, due.length),
                () -> sea.extreme(0, -1));
    }

    private static void cycles(WakeBanks sea, int cycles, int damage) {
        CHECK.same("CYCLES", sea.many(12), cycles);
        CHECK.same("DAMAGE", sea.ofTurbine(0, 5), damage);
    }

    /** Section 4: an empty row, and a row of one, into which a WIND (0, too) is added. */
    private static void emptyRow() {
        CHECK.part("section 4 (promises 6, 18): an empty row");
        WakeBanks sea = Seas.one();
        row(sea);
        put(sea, 0);
        row(sea, 0);
        put(sea, 30);
        row(sea, 0, 30);
        WakeBanks down = Seas.one();
        put(down, 30, 0);
        row(down, 30, 0);
        cycles(down, 0, 0);
    }

    /** Section 4: "if it is the last one, nothing". */
    private static void theLastOne() {
        CHECK.part("section 4 (promises 6, 18): the last one");
        WakeBanks sea = Seas.one();
        put(sea, 10, 10);
        row(sea, 10);
        put(sea, 14, 14);
        row(sea, 10, 14);
        put(sea, 11, 11, 11);
        row(sea, 10, 14, 11);
        cycles(sea, 0, 0);
    }

    /** Section 4: "if it goes on in the way in which the last one went behind the one ahead". */
    private static void goesOn() {
        CHECK.part("section 4 (promises 6, 18): it goes on");
        WakeBanks up = Seas.one();
        put(up, 10, 11, 12);
        row(up, 10, 12);
        put(up, 20);
        row(up, 10, 20);
        put(up, 19);
        row(up, 10, 20, 19);
        put(up, 18, 11);
        row(up, 10, 20, 11);
        WakeBanks down = Seas.one();
        put(down, 20, 19, 18);
        row(down, 20, 18);
        put(down, 19);
        row(down, 20, 18, 19);
        put(down, 17);
        // 17 turns back, so it is added; then 18 and 19 are a CYCLE
        row(down, 20, 17);
        cycles(down, 1, 0);
    }

    /** Section 4: "otherwise it is added". */
    private static void otherwiseAdded() {
        CHECK.part("section 4 (promises 6, 18): it is added");
        WakeBanks sea = Seas.one();
        put(sea, 10, 20, 12, 18, 13, 16, 14, 15);
        row(sea, 10, 20, 12, 18, 13, 16, 14, 15);
        cycles(sea, 0, 0);
    }

    /**
     * Section 4: "at least 3, and the distance of the last two is no less than that of the two
     * ahead of the last one"; "if the row has just 3: only the first one goes".
     */
    private static void threeInTheRow() {
        CHECK.part("section 4 (promises 6, 18, 21): just 3");
        WakeBanks less = Seas.one();
        put(less, 10, 15, 11);
        row(less, 10, 15, 11);
        cycles(less, 0, 0);
        WakeBanks same = Seas.one();
        put(same, 10, 15, 10);
        row(same, 15, 10);
        cycles(same, 1, 2);
        WakeBanks more = Seas.one();
        put(more, 10, 15, 9);
        row(more, 15, 9);
        cycles(more, 1, 2);
        WakeBanks grown = Seas.one();
        put(grown, 10, 15, 11, 10);
        row(grown, 15, 10);
        cycles(grown, 1, 2);
        WakeBanks upward = Seas.one();
        put(upward, 15, 10, 14);
        row(upward, 15, 10, 14);
        put(upward, 15);
        row(upward, 10, 15);
        cycles(upward, 1, 2);
    }

    /** Section 4: "these two ahead of the last one are a CYCLE: they go out of the row". */
    private static void moreThanThree() {
        CHECK.part("section 4 (promises 6, 18, 21): more than 3");
        WakeBanks four = Seas.one();
        put(four, 10, 20, 14, 19);
        row(four, 10, 20, 14, 19);
        put(four, 20);
        row(four, 10, 20);
        cycles(four, 1, 3);
        WakeBanks five = Seas.one();
        put(five, 10, 20, 11, 18, 13);
        row(five, 10, 20, 11, 18, 13);
        put(five, 11);
        row(five, 10, 20, 11);
        cycles(five, 1, 4);
    }

    /** Section 4: "as long as": one WIND may make several CYCLES, down to a row of 2. */
    private static void asLongAs() {
        CHECK.part("section 4 (promises 6, 18, 21): several CYCLES at once");
        WakeBanks sea = Seas.one();
        put(sea, 10, 20, 14, 16);
        row(sea, 10, 20, 14, 16);
        put(sea, 9);
        row(sea, 20, 9);
        cycles(sea, 2, 0 + 10);
        WakeBanks deep = Seas.one();
        put(deep, 0, 30, 4, 26, 8, 22, 12);
        row(deep, 0, 30, 4, 26, 8, 22, 12);
        put(deep, 30);
        // 22, 12 then 26, 8 then 30, 4; to 0, 30
        row(deep, 0, 30);
        cycles(deep, 3, 10 + 32 + 67);
    }

    /** Section 4: it ends with the first two that are further from each other. */
    private static void onlyAsFarAsItHolds() {
        CHECK.part("section 4 (promises 6, 18, 21): not beyond");
        WakeBanks sea = Seas.one();
        put(sea, 0, 30, 4, 26, 8, 22, 12);
        put(sea, 25);
        row(sea, 0, 30, 4, 26, 8, 25);
        cycles(sea, 1, 10);
        put(sea, 26);
        row(sea, 0, 30, 4, 26);
        cycles(sea, 2, 10 + 32);
        put(sea, 29);
        row(sea, 0, 30, 4, 29);
        cycles(sea, 2, 42);
    }

    /** Section 4: "their distance times itself, divided by 10" (cut), of each CYCLE by itself. */
    private static void damageIsCut() {
        CHECK.part("section 4 (promises 6, 14): DAMAGE");
        int[] due = {0, 0, 0, 0, 1, 2, 3, 4, 6, 8, 10, 12, 14};
        for (int distance = 1; distance <= 12; distance++) {
            WakeBanks sea = Seas.one();
            put(sea, 10, 10 + distance, 10);
            cycles(sea, 1, due[distance]);
            CHECK.same("BLADES", sea.wear(0, 2), due[distance]);
        }
        WakeBanks most = Seas.one();
        put(most, 0, 30, 0);
        cycles(most, 1, 90);
        WakeBanks each = Seas.one();
        put(each, 10, 13, 10, 13, 10);
        cycles(each, 3, 0);
        WakeBanks other = Seas.one();
        // the distance of these two counts, not that of the last two
        put(other, 10, 14, 0);
        cycles(other, 1, 1);
    }

    /** Section 4: "the DAMAGE, which is also put to the WEAR of BLADES", beside the TURN. */
    private static void damageIsPutToBlades() {
        CHECK.part("section 4 (promises 6, 15): DAMAGE and BLADES");
        WakeBanks sea = Seas.one();
        sea.turn(0, -1);
        put(sea, 10, 20, 14, 16, 9);
        CHECK.same("BLADES", sea.wear(0, 2), 10 + 5);
        CHECK.same("DAMAGE", sea.ofTurbine(0, 5), 10);
        CHECK.same("of the latest row only once", Seas.hourFromStart(sea, 9), 729 - 21);
        CHECK.same("BLADES", sea.wear(0, 2), 10 + 6);
    }

    /** Section 4: "Each TURBINE that RUNS". */
    private static void onlyThatRuns() {
        CHECK.part("section 4 (promises 6, 18): that RUNS");
        WakeBanks sea = Seas.one();
        put(sea, 10);
        sea.call(0, false);
        Seas.hour(sea, 20);
        row(sea, 10);
        Seas.hour(sea, 5);
        sea.call(0, true);
        row(sea, 10);
        Seas.hour(sea, 12);
        row(sea, 10, 12);
        Seas.hour(sea, 26);
        row(sea, 10, 12);
        Seas.hour(sea, 22);
        CHECK.same("STARTING", sea.ofTurbine(0, 0), 1);
        row(sea, 10, 12);
        Seas.hour(sea, 11);
        row(sea, 10, 12, 11);
    }

    /** Section 4: "its WIND", which is not the SPEED in a WAKE; and CYCLES are those of all. */
    private static void itsOwnWind() {
        CHECK.part("section 4 (promises 18, 21): its WIND");
        WakeBanks sea = Seas.at(9999, 10, 9, 10, 10);
        int[] speeds = {10, 20, 10};
        for (int speed : speeds) {
            sea.blow(1, 0, speed, 0, 0, 20000);
        }
        row(sea, 12, 6);
        CHECK.same("of the other one", sea.extreme(1, 0), 20);
        CHECK.same("of the other one", sea.extreme(1, 1), 10);
        CHECK.same("DAMAGE of 6 and 12", sea.ofTurbine(0, 5), 3);
        CHECK.same("DAMAGE of 10 and 20", sea.ofTurbine(1, 5), 10);
        CHECK.same("CYCLES of all", sea.many(12), 2);
    }

    /** 0, 30, 1, 29 .. 14: 29 EXTREMES, each distance 1 less than the one ahead of it. */
    private static WakeBanks twentyNine() {
        WakeBanks sea = Seas.one();
        for (int i = 0; i < 29; i++) {
            put(sea, i % 2 == 0 ? i / 2 : 30 - i / 2);
            CHECK.same("how many", sea.ofTurbine(0, 6), i + 1);
        }
        CHECK.same("the last one", sea.extreme(0, 28), 14);
        cycles(sea, 0, 0);
        return sea;
    }

    /** Section 4: "At most 30: as one more would be added, the first one goes." */
    private static void thirtyAtMost() {
        CHECK.part("section 4 (promises 6, 18): at most 30");
        WakeBanks sea = twentyNine();
        put(sea, 16);
        CHECK.same("30", sea.ofTurbine(0, 6), 30);
        CHECK.same("the first one stays", sea.extreme(0, 0), 0);
        CHECK.same("the last one", sea.extreme(0, 29), 16);
        put(sea, 16);
        CHECK.same("nothing", sea.extreme(0, 0), 0);
        put(sea, 15);
        CHECK.same("30 still", sea.ofTurbine(0, 6), 30);
        for (int k = 0; k < 30; k++) {
            int i = k + 1;
            CHECK.same("EXTREME " + k, sea.extreme(0, k), i % 2 == 0 ? i / 2 : 30 - i / 2);
        }
        cycles(sea, 0, 0);
        CHECK.refused(sea, IndexOutOfBoundsException.class, () -> sea.extreme(0, 30),
                () -> sea.extreme(0, 31));
    }

    /** Section 4: one that takes the place of the last one is not one more. */
    private static void inPlaceOfTheThirtieth() {
        CHECK.part("section 4 (promises 6, 18): in place of the thirtieth");
        WakeBanks sea = twentyNine();
        put(sea, 15);
        CHECK.same("30", sea.ofTurbine(0, 6), 30);
        put(sea, 16);
        CHECK.same("30", sea.ofTurbine(0, 6), 30);
        CHECK.same("the first one stays", sea.extreme(0, 0), 0);
        CHECK.same("in its place", sea.extreme(0, 29), 16);
        cycles(sea, 0, 0);
        put(sea, 17);
        // as far from 14 as that from 17: the two go, and nothing else
        CHECK.same("28", sea.ofTurbine(0, 6), 28);
        CHECK.same("the first one stays", sea.extreme(0, 0), 0);
        CHECK.same("the last one", sea.extreme(0, 27), 17);
        cycles(sea, 1, 0);
    }

    /** Section 4: the first one of 30 goes as one would be added, CYCLES come after that. */
    private static void firstGoesAheadOfCycles() {
        CHECK.part("section 4 (promises 6, 18, 21): the first one goes, then CYCLES");
        WakeBanks sea = twentyNine();
        put(sea, 16, 0);
        // 30, 1, 29 .. 14, 16, 0: 14 times two go, of the distances 2, 4 .. 28; 30 stays
        row(sea, 30, 0);
        int damage = 0;
        for (int distance = 2; distance <= 28; distance += 2) {
            damage += distance * distance / 10;
        }
        cycles(sea, 14, damage);
        CHECK.same("BLADES", sea.wear(0, 2), damage);
    }
}
