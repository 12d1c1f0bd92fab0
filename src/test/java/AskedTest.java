/** Promises 14 to 22: what one asks. */
public final class AskedTest {
    private static final Check CHECK = new Check();

    private AskedTest() {
    }

    public static void main(String[] args) {
        promise14();
        promise15();
        promise16();
        promise17();
        widthsOfWakes();
        wakesOfAllSectors();
        deficitsTogether();
        promise18();
        promise19();
        promise20();
        promise21();
        promise22();
        CHECK.end("AskedTest");
    }

    private static WakeBanks row(int... places) {
        WakeBanks sea = new WakeBanks();
        sea.string(9999);
        for (int i = 0; i < places.length; i++) {
            sea.turbine(places[i] / 20, places[i] % 20, 0);
        }
        return sea;
    }

    private static void promise14() {
        CHECK.part("promise 14");
        WakeBanks sea = row(10 * 20 + 10, 10 * 20 + 7);
        CHECK.refused(sea, IndexOutOfBoundsException.class, () -> sea.ofTurbine(-1, 0),
                () -> sea.ofTurbine(2, 0), () -> sea.ofTurbine(2, 10),
                () -> sea.ofTurbine(Integer.MIN_VALUE, 0));
        CHECK.refused(sea, IllegalArgumentException.class, () -> sea.ofTurbine(0, -1),
                () -> sea.ofTurbine(0, 10), () -> sea.ofTurbine(1, Integer.MAX_VALUE));
        CHECK.same("DEFICIT by SECTOR 0 at first", sea.ofTurbine(1, 4), 33);
        sea.turn(1, -1);
        sea.blow(1, 0, 12, 0, 0, 20000);
        int[] due = {2, -1, 8, 512 - 15, 33, 0, 1, -1, -1, 0};
        for (int what = 0; what < 10; what++) {
            CHECK.same("ofTurbine " + what, sea.ofTurbine(1, what), due[what]);
        }
        sea.call(0, false);
        CHECK.same("DEFICIT now", sea.ofTurbine(1, 4), 0);
        CHECK.same("WIND of the latest HOUR", sea.ofTurbine(1, 2), 8);
        sea.call(0, true);
        CHECK.same("none of a STARTING one", sea.ofTurbine(1, 4), 0);
        sea.blow(1, 4, 12, 0, 0, 20000);
        CHECK.same("by the latest SECTOR", sea.ofTurbine(1, 4), 0);
        CHECK.same("by the latest SECTOR", sea.ofTurbine(0, 4), 33);
        CHECK.same("WIND", sea.ofTurbine(0, 2), 8);
        CHECK.same("EXTREMES", sea.ofTurbine(1, 6), 2);
        sea.turn(1, 2);
        CHECK.same("by the TURN now", sea.ofTurbine(0, 4), 0);
        sea.call(1, false);
        CHECK.same("by a call", sea.ofTurbine(1, 9), 1);
        sea.blow(1, 4, 12, 0, 0, 20000);
        CHECK.same("DELIVERED", sea.ofTurbine(1, 3), 0);
        CHECK.same("WIND of one that stands", sea.ofTurbine(1, 2), 12);
    }

    private static void promise15() {
        CHECK.part("promise 15");
        WakeBanks sea = row(0, 19);
        sea.turn(1, 1);
        sea.blow(3, 2, 13, 0, 0, 20000);
        CHECK.same("GEAR", sea.wear(1, 0), 6);
        CHECK.same("PITCH", sea.wear(1, 1), 5);
        CHECK.same("BLADES", sea.wear(1, 2), 3);
        CHECK.same("of the other", sea.wear(0, 2), 0);
        CHECK.refused(sea, IndexOutOfBoundsException.class, () -> sea.wear(-1, 0),
                () -> sea.wear(2, 0), () -> sea.wear(0, -1), () -> sea.wear(0, 3),
                () -> sea.wear(0, Integer.MAX_VALUE), () -> sea.wear(Integer.MAX_VALUE, 0));
    }

    private static void promise16() {
        CHECK.part("promise 16");
        WakeBanks sea = row(10 * 20 + 10, 10 * 20 + 8);
        sea.turn(1, 2);
        sea.blow(2, 0, 10, 0, 0, 1100);
        // of the second one: 10 less 36 hundredths is 6, 216 of 1000, 12 hundredths are 25
        int[] due = {2 * 784, 0, 0, 0, 0, 2 * 25, 0, 2 * (191 * 91 / 1191)};
        for (int cause = 0; cause < 8; cause++) {
            CHECK.same("lost " + cause, sea.lost(1, cause), due[cause]);
        }
        CHECK.same("1 more of the smallest", sea.lost(0, 7), 2 * (1000 * 91 / 1191 + 1));
        CHECK.refused(sea, IndexOutOfBoundsException.class, () -> sea.lost(-1, 0),
                () -> sea.lost(2, 0), () -> sea.lost(0, -1), () -> sea.lost(0, 8),
                () -> sea.lost(0, Integer.MIN_VALUE));
    }

    private static void promise17() {
        CHECK.part("promise 17");
        WakeBanks sea = row(10 * 20 + 15, 10 * 20 + 12);
        CHECK.refused(sea, IndexOutOfBoundsException.class, () -> sea.wake(-1, 0),
                () -> sea.wake(0, -1), () -> sea.wake(2, 0), () -> sea.wake(0, 2),
                () -> sea.wake(2, 2), () -> sea.wake(Integer.MIN_VALUE, 0));
        CHECK.same("in the WAKE", sea.wake(1, 0), 33);
        CHECK.same("not in it", sea.wake(0, 1), 0);
        CHECK.same("the same", sea.wake(0, 0), 0);
        sea.call(1, false);
        CHECK.same("also one that stands", sea.wake(1, 0), 33);
        sea.blow(1, 4, 10, 0, 0, 20000);
        CHECK.same("the latest SECTOR", sea.wake(1, 0), 0);
        CHECK.same("the first one stands", sea.wake(0, 1), 0);
        sea.call(1, true);
        sea.blow(1, 4, 10, 0, 0, 20000);
        CHECK.same("it RUNS", sea.wake(0, 1), 33);
        WakeBanks far = row(10 * 20 + 15, 10 * 20 + 3, 10 * 20 + 2);
        CHECK.same("ALONG 12", far.wake(1, 0), 6);
        CHECK.same("ALONG 13", far.wake(2, 0), 0);
        CHECK.same("ALONG 1", far.wake(2, 1), 39);
    }

    /** In SECTOR 0 the ACROSS of one that is dx to the right is -dx. */
    private static void widthsOfWakes() {
        CHECK.part("promise 17, widths");
        int[] widths = {0, 1, 1, 1, 2, 2, 2, 2, 3, 3, 3, 3, 4};
        for (int along = 1; along <= 12; along++) {
            for (int dx = -8; dx <= 8; dx++) {
                WakeBanks sea = row(10 * 20 + 15, (10 + dx) * 20 + 15 - along);
                for (int turn = -2; turn <= 2; turn++) {
                    sea.turn(0, turn);
                    boolean isIn = Math.abs(-dx - turn) <= widths[along];
                    CHECK.same("ALONG " + along + " dx " + dx + " TURN " + turn,
                            sea.wake(1, 0), isIn ? 42 - 3 * along : 0);
                }
            }
        }
    }

    private static void wakesOfAllSectors() {
        CHECK.part("promise 17, SECTORS");
        int[][] blows = {{0, -1}, {-1, -1}, {-1, 0}, {-1, 1}, {0, 1}, {1, 1}, {1, 0}, {1, -1}};
        for (int sector = 0; sector < 8; sector++) {
            int p = blows[sector][0];
            int q = blows[sector][1];
            int straight = p == 0 || q == 0 ? 1 : 2;
            // the second is right behind the first, the third 2 aside (q, -p: ACROSS above 0)
            WakeBanks sea = row(10 * 20 + 10, (10 + p) * 20 + 10 + q,
                    (10 + p + 2 * q) * 20 + 10 + q - 2 * p);
            sea.turbine(10 + q, 10 - p, 0);
            sea.blow(1, sector, 10, 0, 0, 20000);
            CHECK.same("ALONG 0, SECTOR " + sector, sea.wake(3, 0), 0);
            CHECK.same("ALONG 0, SECTOR " + sector, sea.wake(0, 3), 0);
            CHECK.same("behind, SECTOR " + sector, sea.wake(1, 0), 42 - 3 * straight);
            CHECK.same("ahead, SECTOR " + sector, sea.wake(0, 1), 0);
            CHECK.same("aside, SECTOR " + sector, sea.wake(2, 0), 0);
            sea.turn(0, 1);
            CHECK.same("TURNED, SECTOR " + sector, sea.wake(2, 0), straight == 1 ? 39 : 0);
            sea.turn(0, -1);
            CHECK.same("TURNED away, SECTOR " + sector, sea.wake(2, 0), 0);
            CHECK.same("behind still, SECTOR " + sector, sea.wake(1, 0), 42 - 3 * straight);
            sea.turn(0, -2);
            CHECK.same("beside, SECTOR " + sector, sea.wake(1, 0), 0);
        }
    }

    private static void deficitsTogether() {
        CHECK.part("promise 14, DEFICIT of several");
        int at = 10 * 20;
        CHECK.same("27 and half of 18", row(at + 5, at + 10, at + 13).ofTurbine(0, 4), 36);
        CHECK.same("27 and half of 21", row(at + 5, at + 12, at + 10).ofTurbine(0, 4), 37);
        CHECK.same("27 and half of 21 and 15",
                row(at + 5, at + 12, at + 10, at + 14).ofTurbine(0, 4), 45);
        CHECK.same("60 at most", row(at + 5, at + 6, at + 7, at + 8).ofTurbine(0, 4), 60);
        CHECK.same("39 and half of 36", row(at + 5, at + 6, at + 7).ofTurbine(0, 4), 57);
        WakeBanks sea = row(at + 5, at + 6, at + 7, at + 8);
        sea.blow(1, 0, 24, 0, 0, 20000);
        CHECK.same("WIND, cut", sea.ofTurbine(0, 2), 24 * 40 / 100);
    }

    private static void promise18() {
        CHECK.part("promise 18");
        WakeBanks sea = row(0, 19);
        CHECK.refused(sea, IndexOutOfBoundsException.class, () -> sea.extreme(0, 0));
        sea.blow(1, 2, 10, 0, 0, 20000);
        sea.call(1, false);
        sea.blow(1, 2, 14, 0, 0, 20000);
        sea.blow(1, 2, 12, 0, 0, 20000);
        CHECK.same("EXTREME", sea.extreme(0, 0), 10);
        CHECK.same("EXTREME", sea.extreme(0, 1), 14);
        CHECK.same("EXTREME", sea.extreme(0, 2), 12);
        CHECK.same("none of one that stands", sea.ofTurbine(1, 6), 1);
        CHECK.refused(sea, IndexOutOfBoundsException.class, () -> sea.extreme(0, 3),
                () -> sea.extreme(0, -1), () -> sea.extreme(1, 1), () -> sea.extreme(2, 0),
                () -> sea.extreme(-1, 0), () -> sea.extreme(0, 29), () -> sea.extreme(0, 30),
                () -> sea.extreme(0, Integer.MAX_VALUE), () -> sea.extreme(0, Integer.MIN_VALUE));
    }

    private static void promise19() {
        CHECK.part("promise 19");
        WakeBanks sea = row(0, 19);
        sea.string(777);
        CHECK.refused(sea, IndexOutOfBoundsException.class, () -> sea.ofString(-1, 0),
                () -> sea.ofString(2, 0), () -> sea.ofString(2, 4),
                () -> sea.ofString(Integer.MAX_VALUE, 0));
        CHECK.refused(sea, IllegalArgumentException.class, () -> sea.ofString(0, -1),
                () -> sea.ofString(0, 4), () -> sea.ofString(1, Integer.MIN_VALUE));
        sea.blow(1, 2, 10, 0, 0, 500);
        int[] due = {9999, 500, 9949, 2000};
        int[] other = {777, 0, 777, 0};
        for (int what = 0; what < 4; what++) {
            CHECK.same("ofString " + what, sea.ofString(0, what), due[what]);
            CHECK.same("of the other " + what, sea.ofString(1, what), other[what]);
        }
        sea.blow(1, 2, 7, 0, 0, 500);
        CHECK.same("HEAT, cut", sea.ofString(0, 1), (1500 + 686) / 4);
        CHECK.same("LIMIT, a tenth cut", sea.ofString(0, 2), 9999 - 54);
    }

    private static void promise20() {
        CHECK.part("promise 20");
        WakeBanks sea = row(0, 19);
        sea.vessel(10);
        sea.vessel(40);
        CHECK.refused(sea, IndexOutOfBoundsException.class, () -> sea.ofVessel(-1, 0),
                () -> sea.ofVessel(2, 0), () -> sea.ofVessel(2, 5),
                () -> sea.ofVessel(Integer.MIN_VALUE, 0));
        CHECK.refused(sea, IllegalArgumentException.class, () -> sea.ofVessel(0, -1),
                () -> sea.ofVessel(0, 5), () -> sea.ofVessel(1, Integer.MAX_VALUE));
        sea.sail(0, 1);
        sea.lock(0, true);
        sea.blow(7, 0, 10, 0, 0, 20000);
        sea.climb(0, 2);
        sea.blow(2, 0, 10, 21, 0, 20000);
        int[] due = {1, 1, 2, 4, 2};
        int[] other = {-1, 0, -1, 0, 0};
        for (int what = 0; what < 5; what++) {
            CHECK.same("ofVessel " + what, sea.ofVessel(0, what), due[what]);
            CHECK.same("of the other " + what, sea.ofVessel(1, what), other[what]);
        }
    }

    private static void promise21() {
        CHECK.part("promise 21");
        WakeBanks sea = row(0, 19, 19 * 20);
        sea.string(400);
        sea.vessel(40);
        sea.sail(0, 2);
        sea.lock(0, true);
        sea.call(1, false);
        sea.nominate(1, 600);
        sea.nominate(24, 5);
        sea.nominate(12, 5);
        sea.blow(1, 2, 10, 0, 50, 800);
        int[] due = {3, 2, 1, 1, 1, 0, 1, 3000, 800, 400 - 40, 2, 0, 0, 800};
        for (int what = 0; what < 14; what++) {
            CHECK.same("many " + what, sea.many(what), due[what]);
        }
        CHECK.refused(sea, IllegalArgumentException.class, () -> sea.many(-1),
                () -> sea.many(14), () -> sea.many(Integer.MAX_VALUE),
                () -> sea.many(Integer.MIN_VALUE));
        sea.blow(6, 2, 10, 0, 50, 20000);
        sea.climb(0, 0);
        sea.blow(4, 2, 10, 0, 0, 20000);
        CHECK.same("WORKS", sea.many(11), 1);
        sea.call(1, true);
        sea.down(0);
        sea.lock(0, false);
        sea.blow(2, 2, 10, 0, 0, 20000);
        CHECK.same("RUNNING ones", sea.many(4), 3);
        CHECK.same("LOCKED ones", sea.many(6), 0);
        sea.blow(1, 2, 14, 0, 0, 20000);
        sea.blow(1, 2, 11, 0, 0, 20000);
        CHECK.same("CYCLES of all", sea.many(12), 0);
        sea.blow(1, 2, 14, 0, 0, 20000);
        CHECK.same("one CYCLE each", sea.many(12), 3);
        sea.blow(24, 2, 15, 0, 0, 20000);
        sea.blow(24, 2, 15, 0, 0, 20000);
        sea.blow(24, 2, 15, 0, 0, 20000);
        CHECK.same("FAULTED ones", sea.many(5), 1);
        CHECK.same("RUNNING ones", sea.many(4), 2);
    }

    private static void promise22() {
        CHECK.part("promise 22");
        WakeBanks sea = row(0, 19, 19 * 20);
        CHECK.same("without POTENTIAL", sea.meanDelivered(), 0.0);
        sea.blow(1, 2, 3, 0, 0, 20000);
        CHECK.same("without POTENTIAL", sea.meanDelivered(), 0.0);
        sea.blow(1, 2, 10, 0, 0, 1000);
        CHECK.same("not cut", sea.meanDelivered(), 1000.0 / 3000.0);
        sea.blow(1, 2, 5, 0, 0, 20000);
        CHECK.same("of all HOURS", sea.meanDelivered(), 1375.0 / 3375.0);
        WakeBanks all = row(0);
        all.blow(24, 2, 12, 0, 0, 20000);
        CHECK.same("all of it", all.meanDelivered(), 1.0);
    }
}
