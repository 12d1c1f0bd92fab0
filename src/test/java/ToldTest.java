/** Promises 1 to 5: a new object, and what is told. */
public final class ToldTest {
    private static final Check CHECK = new Check();

    private ToldTest() {
    }

    public static void main(String[] args) {
        promise1();
        promise2();
        promise3();
        promise4();
        promise5();
        CHECK.end("ToldTest");
    }

    private static void promise1() {
        CHECK.part("promise 1");
        WakeBanks sea = new WakeBanks();
        long due = 58176;
        for (int what = 0; what < 14; what++) {
            CHECK.same("many", sea.many(what), 0);
            due = due * 31;
        }
        due = due * 31;
        CHECK.same("meanDelivered", sea.meanDelivered(), 0.0);
        CHECK.same("wouldDeliver", sea.wouldDeliver(24), 0);
        CHECK.same("bestPlace", sea.bestPlace(), 0);
        CHECK.same("digest", sea.digest(), due);
        CHECK.same("floor", sea.floor(-51), -51);
        CHECK.refused(sea, IndexOutOfBoundsException.class,
                () -> sea.turbine(0, 0, 0), () -> sea.turn(0, 0), () -> sea.call(0, false),
                () -> sea.sail(0, -1), () -> sea.lock(0, true), () -> sea.climb(0, 0),
                () -> sea.down(0), () -> sea.ofTurbine(0, 0), () -> sea.wear(0, 0),
                () -> sea.lost(0, 0), () -> sea.wake(0, 0), () -> sea.extreme(0, 0),
                () -> sea.ofString(0, 0), () -> sea.ofVessel(0, 0), () -> sea.bestTurn(0));
        CHECK.same("an HOUR without TURBINES", sea.blow(24, 0, 12, 9, 50, 20000), 0);
        CHECK.same("HOUR", sea.many(3), 24);
        CHECK.same("POTENTIAL", sea.many(7), 0);
        CHECK.same("meanDelivered", sea.meanDelivered(), 0.0);
        CHECK.same("another object", new WakeBanks().many(3), 0);
    }

    private static void promise2() {
        CHECK.part("promise 2");
        WakeBanks sea = new WakeBanks();
        CHECK.refused(sea, IllegalArgumentException.class, () -> sea.string(99),
                () -> sea.string(10000), () -> sea.string(-1),
                () -> sea.string(Integer.MIN_VALUE), () -> sea.string(Integer.MAX_VALUE));
        CHECK.same("string", sea.string(100), 0);
        CHECK.same("string", sea.string(9999), 1);
        CHECK.same("many", sea.many(1), 2);
        CHECK.same("string", sea.string(500), 2);
        CHECK.same("RATING", sea.ofString(0, 0), 100);
        CHECK.same("RATING", sea.ofString(1, 0), 9999);
        CHECK.same("RATING", sea.ofString(2, 0), 500);
        CHECK.same("HEAT", sea.ofString(1, 1), 0);
        CHECK.same("LIMIT", sea.ofString(1, 2), 9999);
        CHECK.same("through", sea.ofString(1, 3), 0);
        CHECK.refused(sea, IllegalStateException.class, () -> sea.string(500));
        CHECK.refused(sea, IllegalArgumentException.class, () -> sea.string(99));
        CHECK.same("many", sea.many(1), 3);
    }

    private static void promise3() {
        CHECK.part("promise 3");
        WakeBanks sea = new WakeBanks();
        sea.string(9999);
        CHECK.refused(sea, IndexOutOfBoundsException.class, () -> sea.turbine(0, 0, -1),
                () -> sea.turbine(0, 0, 1), () -> sea.turbine(20, 0, 1),
                () -> sea.turbine(0, 0, Integer.MIN_VALUE));
        CHECK.refused(sea, IllegalArgumentException.class, () -> sea.turbine(-1, 0, 0),
                () -> sea.turbine(20, 0, 0), () -> sea.turbine(0, -1, 0),
                () -> sea.turbine(0, 20, 0), () -> sea.turbine(Integer.MAX_VALUE, 0, 0));
        CHECK.same("turbine", sea.turbine(19, 0, 0), 0);
        CHECK.same("turbine", sea.turbine(0, 19, 0), 1);
        int[] atFirst = {2, 0, 0, 0, 0, 0, 0, -1, -1, 0};
        for (int what = 0; what < 10; what++) {
            CHECK.same("ofTurbine " + what, sea.ofTurbine(1, what), atFirst[what]);
        }
        for (int part = 0; part < 3; part++) {
            CHECK.same("wear", sea.wear(1, part), 0);
        }
        for (int cause = 0; cause < 8; cause++) {
            CHECK.same("lost", sea.lost(1, cause), 0);
        }
        CHECK.refused(sea, IllegalStateException.class, () -> sea.turbine(0, 19, 0),
                () -> sea.turbine(19, 0, 0));
        CHECK.same("the same x alone", sea.turbine(19, 1, 0), 2);
        CHECK.same("the same y alone", sea.turbine(1, 0, 0), 3);
        for (int i = 4; i < 8; i++) {
            CHECK.same("turbine", sea.turbine(10, i, 0), i);
        }
        CHECK.same("many", sea.many(0), 8);
        CHECK.refused(sea, IllegalStateException.class, () -> sea.turbine(5, 5, 0));
        CHECK.refused(sea, IllegalArgumentException.class, () -> sea.turbine(20, 5, 0));
        CHECK.refused(sea, IndexOutOfBoundsException.class, () -> sea.turbine(20, 5, 1));
        itsStringIsItsOwn();
    }

    private static void itsStringIsItsOwn() {
        WakeBanks sea = new WakeBanks();
        sea.string(9999);
        sea.string(100);
        sea.turbine(0, 0, 1);
        sea.turbine(0, 19, 0);
        sea.blow(1, 2, 10, 0, 0, 20000);
        CHECK.same("through 0", sea.ofString(0, 3), 1000);
        CHECK.same("through 1", sea.ofString(1, 3), 100);
    }

    private static void promise4() {
        CHECK.part("promise 4");
        WakeBanks sea = new WakeBanks();
        CHECK.refused(sea, IllegalArgumentException.class, () -> sea.vessel(4),
                () -> sea.vessel(41), () -> sea.vessel(-5), () -> sea.vessel(Integer.MAX_VALUE));
        CHECK.same("vessel", sea.vessel(5), 0);
        CHECK.same("vessel", sea.vessel(40), 1);
        CHECK.same("vessel", sea.vessel(20), 2);
        int[] atFirst = {-1, 0, -1, 0, 0};
        for (int what = 0; what < 5; what++) {
            CHECK.same("ofVessel " + what, sea.ofVessel(2, what), atFirst[what]);
        }
        CHECK.same("many", sea.many(2), 3);
        CHECK.refused(sea, IllegalStateException.class, () -> sea.vessel(20));
        CHECK.refused(sea, IllegalArgumentException.class, () -> sea.vessel(4));
    }

    private static void promise5() {
        CHECK.part("promise 5");
        WakeBanks sea = new WakeBanks();
        sea.string(9999);
        sea.turbine(0, 0, 0);
        CHECK.refused(sea, IllegalArgumentException.class, () -> sea.nominate(0, 5),
                () -> sea.nominate(25, 5), () -> sea.nominate(-1, 5), () -> sea.nominate(1, -1),
                () -> sea.nominate(1, 20001), () -> sea.nominate(Integer.MAX_VALUE, 5),
                () -> sea.nominate(Integer.MIN_VALUE, 5));
        CHECK.same("the next", sea.nominate(1, 20000), 1);
        CHECK.same("the last", sea.nominate(24, 0), 2);
        CHECK.same("in its place", sea.nominate(1, 1100), 2);
        CHECK.same("many", sea.many(10), 2);
        sea.blow(1, 0, 10, 0, 0, 20000);
        CHECK.same("1000 for 1100", sea.many(9), -20);
        CHECK.same("one is past", sea.many(10), 1);
        CHECK.refused(sea, IllegalArgumentException.class, () -> sea.nominate(1, 5),
                () -> sea.nominate(26, 5));
        CHECK.same("the last", sea.nominate(25, 1000), 2);
        sea.blow(22, 0, 10, 0, 0, 20000);
        CHECK.same("none is due", sea.many(9), -20);
        CHECK.same("both are to come", sea.many(10), 2);
        sea.blow(1, 0, 10, 0, 0, 20000);
        CHECK.same("1000 for 0", sea.many(9), -220);
        sea.blow(1, 0, 10, 0, 0, 20000);
        CHECK.same("1000 for 1000", sea.many(9), -220);
        CHECK.same("none is to come", sea.many(10), 0);
        sea.nominate(26, 1004);
        sea.nominate(27, 1005);
        sea.blow(1, 0, 10, 0, 0, 20000);
        CHECK.same("4 times 20, cut", sea.many(9), -220);
        sea.blow(1, 0, 10, 0, 0, 20000);
        CHECK.same("5 times 20", sea.many(9), -221);
        for (int i = 1; i <= 24; i++) {
            CHECK.same("all 24", sea.nominate(27 + i, 7), i);
        }
        sea.blow(24, 0, 0, 0, 0, 0);
        CHECK.same("all are past", sea.many(10), 0);
        CHECK.same("7 for nothing, 24 times", sea.many(9), -221 - 24);
    }
}
