/** The edges that section 2 names, as promises 14 (DEFICIT, WIND) and 17 (wake) answer them. */
public final class EdgeWakesTest {
    private static final Check CHECK = new Check();
    private static final int[][] BLOWS = {
        {0, -1}, {-1, -1}, {-1, 0}, {-1, 1}, {0, 1}, {1, 1}, {1, 0}, {1, -1},
    };

    private EdgeWakesTest() {
    }

    public static void main(String[] args) {
        alongAndAcross();
        farAside();
        onlyOfOneThatRuns();
        alsoOneThatStands();
        oneWakeAlone();
        halfOfTheOthers();
        equalOnes();
        sixtyAtMost();
        windIsCut();
        CHECK.end("EdgeWakesTest");
    }

    /** One at the first place, another one this far ALONG and ACROSS of it; null if no place is. */
    private static WakeBanks pair(int sector, int along, int across) {
        int p = BLOWS[sector][0];
        int q = BLOWS[sector][1];
        int n = p * p + q * q;
        if ((along * p + across * q) % n != 0) {
            return null;
        }
        int dx = (along * p + across * q) / n;
        int dy = (along * q - across * p) / n;
        int x = 10 - dx / 2;
        int y = 10 - dy / 2;
        WakeBanks sea = Seas.at(9999, x, y, x + dx, y + dy);
        sea.blow(1, sector, 10, 0, 0, 20000);
        return sea;
    }

    /**
     * Promise 17: "ALONG is 1 to 12, and ACROSS, less the TURN of the first one, is from -w to w,
     * where w is 1 more than a fourth of ALONG (that cut)", "42 less 3 times ALONG".
     */
    private static void alongAndAcross() {
        CHECK.part("promise 17: ALONG and ACROSS");
        int[][] alongWidthDeficit = {
            {-12, -1, 0}, {-4, -1, 0}, {-1, -1, 0}, {0, -1, 0}, {1, 1, 39}, {2, 1, 36}, {3, 1, 33},
            {4, 2, 30}, {5, 2, 27}, {7, 2, 21}, {8, 3, 18}, {9, 3, 15}, {11, 3, 9}, {12, 4, 6},
            {13, -1, 0}, {14, -1, 0}, {16, -1, 0},
        };
        int in = 0;
        for (int[] row : alongWidthDeficit) {
            for (int sector = 0; sector < 8; sector++) {
                for (int across = -8; across <= 8; across++) {
                    boolean isSame = row[0] == 0 && across == 0;
                    WakeBanks sea = isSame ? null : pair(sector, row[0], across);
                    for (int turn = -2; sea != null && turn <= 2; turn++) {
                        sea.turn(0, turn);
                        boolean is = across - turn >= -row[1] && across - turn <= row[1];
                        in += is ? 1 : 0;
                        CHECK.same("SECTOR " + sector + " ALONG " + row[0] + " ACROSS " + across
                                + " TURN " + turn, sea.wake(1, 0), is ? row[2] : 0);
                    }
                }
            }
        }
        CHECK.that("some hundred of them are in the WAKE", in > 500);
    }

    /** Promise 17: "0, if it is in none", from one corner of the sea to another one. */
    private static void farAside() {
        CHECK.part("promise 17: the corners");
        int[] corners = {0, 0, 0, 19, 19, 0, 19, 19};
        WakeBanks sea = Seas.at(9999, corners);
        for (int sector = 0; sector < 8; sector++) {
            sea.blow(1, sector, 10, 0, 0, 20000);
            for (int i = 0; i < 4; i++) {
                for (int k = 0; k < 4; k++) {
                    CHECK.same("SECTOR " + sector, sea.wake(i, k), 0);
                }
                CHECK.same("DEFICIT", sea.ofTurbine(i, 4), 0);
            }
        }
    }

    /** Two at ALONG 1 in SECTOR 0 and out of WAKES in SECTOR 2, with a VESSEL. */
    private static WakeBanks close() {
        WakeBanks sea = Seas.at(9999, 10, 10, 10, 9);
        sea.vessel(20);
        return sea;
    }

    /** Promise 17: "in the WAKE of the first one, if that RUNS". */
    private static void onlyOfOneThatRuns() {
        CHECK.part("promise 17: if that RUNS");
        WakeBanks sea = close();
        CHECK.same("RUNNING", sea.wake(1, 0), 39);
        sea.call(0, false);
        CHECK.same("STOPPED by a call", sea.wake(1, 0), 0);
        CHECK.same("DEFICIT", sea.ofTurbine(1, 4), 0);
        sea.call(0, true);
        CHECK.same("STARTING", sea.wake(1, 0), 0);
        sea.blow(1, 0, 10, 0, 0, 20000);
        CHECK.same("RUNNING", sea.wake(1, 0), 39);
        CHECK.same("DEFICIT", sea.ofTurbine(1, 4), 39);
        sea.blow(1, 0, 26, 0, 0, 20000);
        CHECK.same("STOPPED by itself", sea.wake(1, 0), 0);
        WakeBanks cheap = close();
        cheap.floor(1);
        cheap.blow(1, 0, 10, 0, 0, 20000);
        CHECK.same("STOPPED of a price", cheap.wake(1, 0), 0);
        WakeBanks locked = close();
        locked.sail(0, 0);
        locked.lock(0, true);
        CHECK.same("LOCKED", locked.wake(1, 0), 0);
        WakeBanks faulted = close();
        for (int i = 0; i < 8; i++) {
            faulted.blow(1, 0, i % 2 == 0 ? 3 : 25, 0, 0, 20000);
        }
        CHECK.same("STATE", faulted.ofTurbine(0, 0), 3);
        CHECK.same("FAULTED", faulted.wake(1, 0), 0);
    }

    /** Promise 17: the DEFICIT does not ask whether the one that has it RUNS. */
    private static void alsoOneThatStands() {
        CHECK.part("promise 17: also one that stands");
        WakeBanks sea = close();
        sea.call(1, false);
        CHECK.same("STOPPED", sea.wake(1, 0), 39);
        CHECK.same("DEFICIT", sea.ofTurbine(1, 4), 39);
        sea.call(1, true);
        CHECK.same("STARTING", sea.wake(1, 0), 39);
        sea.blow(1, 0, 10, 0, 0, 20000);
        sea.sail(0, 1);
        sea.lock(0, true);
        CHECK.same("LOCKED", sea.wake(1, 0), 39);
    }

    /** In SECTOR 0 the first one is this far behind each other one, at (10, 2). */
    private static WakeBanks behind(int... alongs) {
        int[] xy = new int[2 + 2 * alongs.length];
        xy[0] = 10;
        xy[1] = 2;
        for (int i = 0; i < alongs.length; i++) {
            xy[2 + 2 * i] = 10;
            xy[3 + 2 * i] = 2 + alongs[i];
        }
        return Seas.at(9999, xy);
    }

    /** Promise 14: one WAKE alone, and none: nothing is halved. */
    private static void oneWakeAlone() {
        CHECK.part("promise 14: DEFICIT of one WAKE");
        CHECK.same("none", behind().ofTurbine(0, 4), 0);
        CHECK.same("too far", behind(13).ofTurbine(0, 4), 0);
        for (int along = 1; along <= 12; along++) {
            CHECK.same("ALONG " + along, behind(along).ofTurbine(0, 4), 42 - 3 * along);
        }
        CHECK.same("of two just one", behind(4, 13).ofTurbine(0, 4), 30);
    }

    /** Promise 14: "the greatest DEFICIT, and half of the sum of the others (cut)". */
    private static void halfOfTheOthers() {
        CHECK.part("promise 14: DEFICIT of several");
        CHECK.same("9 and half of 6", behind(11, 12).ofTurbine(0, 4), 12);
        CHECK.same("the order is free", behind(12, 11).ofTurbine(0, 4), 12);
        CHECK.same("12 and half of 9, cut", behind(10, 11).ofTurbine(0, 4), 16);
        CHECK.same("15 and half of 12 and 9, cut", behind(10, 9, 11).ofTurbine(0, 4), 25);
        CHECK.same("half of the sum, not the sum of halves, cut",
                behind(9, 11, 7).ofTurbine(0, 4), 21 + (15 + 9) / 2);
        CHECK.same("39 and half of 33, cut", behind(1, 3).ofTurbine(0, 4), 55);
    }

    /** Promise 14: of two that are the greatest one is of the others. */
    private static void equalOnes() {
        CHECK.part("promise 14: two greatest ones");
        CHECK.same("30 and half of 30", Seas.at(9999, 10, 2, 9, 6, 11, 6).ofTurbine(0, 4), 45);
        CHECK.same("30 and half of 30 and 30",
                Seas.at(9999, 10, 2, 9, 6, 10, 6, 11, 6).ofTurbine(0, 4), 60);
    }

    /** Promise 14: "but 60 at most". */
    private static void sixtyAtMost() {
        CHECK.part("promise 14: DEFICIT is 60 at most");
        CHECK.same("57", behind(1, 2).ofTurbine(0, 4), 57);
        CHECK.same("58", behind(1, 3, 12).ofTurbine(0, 4), 58);
        CHECK.same("60", behind(1, 2, 12).ofTurbine(0, 4), 60);
        CHECK.same("61", behind(1, 2, 11).ofTurbine(0, 4), 60);
        WakeBanks all = behind(1, 2, 3, 4, 5, 6, 7);
        CHECK.same("147", all.ofTurbine(0, 4), 60);
        all.blow(1, 0, 25, 0, 0, 20000);
        CHECK.same("WIND", all.ofTurbine(0, 2), 10);
    }

    /** Promise 14: "WIND is SPEED times what DEFICIT lacks to 100, divided by 100" (cut). */
    private static void windIsCut() {
        CHECK.part("promise 14: WIND");
        int[][] alongSpeedWind = {
            {1, 0, 0}, {1, 1, 0}, {12, 1, 0}, {12, 2, 1}, {1, 10, 6}, {12, 10, 9}, {12, 25, 23},
            {1, 30, 18}, {12, 30, 28}, {4, 10, 7}, {13, 30, 30}, {13, 1, 1}, {13, 0, 0},
            // 793, 1098, 896, 1292 and 1598 hundredths, just below the next one
            {1, 13, 7}, {1, 18, 10}, {2, 14, 8}, {6, 17, 12}, {12, 17, 15},
        };
        for (int[] row : alongSpeedWind) {
            windAt(row[0], row[1], row[2]);
        }
        for (int along = 1; along <= 12; along++) {
            for (int speed = 0; speed <= 30; speed++) {
                int hundredths = speed * (58 + 3 * along);
                windAt(along, speed, (hundredths - hundredths % 100) / 100);
            }
        }
    }

    private static void windAt(int along, int speed, int due) {
        WakeBanks sea = behind(along);
        Seas.startAgain(sea, 1);
        sea.blow(1, 0, speed, 0, 0, 20000);
        CHECK.same("ALONG " + along + " SPEED " + speed, sea.ofTurbine(0, 2), due);
        CHECK.same("of the first one", sea.ofTurbine(1, 2), speed);
    }
}
