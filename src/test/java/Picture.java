/** All that one can ask of a sea, in one text. */
final class Picture {
    private Picture() {
    }

    static String of(WakeBanks sea) {
        StringBuilder text = new StringBuilder();
        for (int what = 0; what < 14; what++) {
            text.append(sea.many(what)).append(' ');
        }
        for (int i = 0; i < sea.many(0); i++) {
            turbine(sea, i, text);
        }
        for (int i = 0; i < sea.many(1); i++) {
            text.append("\n string");
            for (int what = 0; what < 4; what++) {
                text.append(' ').append(sea.ofString(i, what));
            }
        }
        for (int i = 0; i < sea.many(2); i++) {
            text.append("\n vessel");
            for (int what = 0; what < 5; what++) {
                text.append(' ').append(sea.ofVessel(i, what));
            }
        }
        text.append("\n mean ").append(sea.meanDelivered());
        text.append(" would ").append(sea.wouldDeliver(1)).append(' ').append(sea.wouldDeliver(24));
        text.append(" place ").append(sea.bestPlace());
        text.append(" digest ").append(sea.digest());
        return text.toString();
    }

    private static void turbine(WakeBanks sea, int i, StringBuilder text) {
        text.append("\n turbine");
        for (int what = 0; what < 10; what++) {
            text.append(' ').append(sea.ofTurbine(i, what));
        }
        text.append(" wear");
        for (int part = 0; part < 3; part++) {
            text.append(' ').append(sea.wear(i, part));
        }
        text.append(" lost");
        for (int cause = 0; cause < 8; cause++) {
            text.append(' ').append(sea.lost(i, cause));
        }
        text.append(" extremes");
        for (int k = 0; k < sea.ofTurbine(i, 6); k++) {
            text.append(' ').append(sea.extreme(i, k));
        }
        text.append(" wakes");
        for (int other = 0; other < sea.many(0); other++) {
            text.append(' ').append(sea.wake(i, other));
        }
        text.append(" turn ").append(sea.bestTurn(i));
    }
}
