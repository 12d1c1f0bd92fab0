/**
 * Turbines at sea: turbines on strings of cables, the wakes in which they stand, the hours that
 * come with wind, waves, a price and an order, and the crews that mend what is worn.
 *
 * <p>This class looks at the arguments and throws; what the sea is and does stands in the classes
 * inside. Words in capitals are those of the document.
 */
public final class WakeBanks {
    private static final int NONE = -1;

    private static final int MOST_STRINGS = 3;
    private static final int MOST_TURBINES = 8;
    private static final int MOST_VESSELS = 3;
    private static final int MOST_EXTREMES = 30;
    private static final int PARTS = 3;
    private static final int CAUSES = 8;
    private static final int SECTORS = 8;
    private static final int SIDE = 20;
    private static final int HOURS_AHEAD = 24;

    private static final int MOST_HOURS = 24;
    private static final int MOST_SPEED = 30;
    private static final int MOST_WAVE = 60;
    private static final int LEAST_PRICE = -50;
    private static final int MOST_PRICE = 200;
    private static final int MOST_ORDER = 20000;
    private static final int NO_FLOOR = -51;
    private static final int MOST_FLOOR = 50;
    private static final int MOST_TURN = 2;
    private static final int MOST_WEAR = 9999;
    private static final int MOST_POWER = 2000;
    private static final int MOST_DEFICIT = 60;
    private static final int MOST_ALONG = 12;
    private static final int PLACE_SPEED = 10;

    private static final int STOPPED = 0;
    private static final int STARTING = 1;
    private static final int RUNNING = 2;
    private static final int FAULTED = 3;
    private static final int LOCKED = 4;

    private static final int BY_ITSELF = 0;
    private static final int BY_CALL = 1;
    private static final int OF_PRICE = 2;

    private static final int GEAR = 0;
    private static final int PITCH = 1;
    private static final int BLADES = 2;

    private static final int TO_WAKE = 0;
    private static final int TO_STATE = 1;
    private static final int TO_FAULT = 2;
    private static final int TO_LOCK = 3;
    private static final int TO_CALL = 4;
    private static final int TO_TURN = 5;
    private static final int TO_CABLE = 6;
    private static final int TO_ORDER = 7;

    private static final int TURBINE_ANSWERS = 10;
    private static final int STRING_ANSWERS = 4;
    private static final int VESSEL_ANSWERS = 5;
    private static final int MANY_ANSWERS = 14;
    private static final int DIGEST_START = 58176;
    private static final int DIGEST_HOURS = 3;

    private static final int[] WIND_P = {0, -1, -1, -1, 0, 1, 1, 1};
    private static final int[] WIND_Q = {-1, -1, 0, 1, 1, 1, 0, -1};
    private static final int[] WEAR_LIMITS = {150, 120, 200};
    private static final int[] WORK_HOURS = {4, 2, 6};
    /** In the order in which bestTurn prefers them. */
    private static final int[] TURNS = {0, -1, 1, -2, 2};

    private final Sea sea;
    /** What would be is tried out on this copy, made once and used again. */
    private final Sea trial;
    private final Siting siting;

    public WakeBanks() {
        sea = new Sea();
        trial = new Sea();
        siting = new Siting();
    }

    // ---- what is told

    public int string(int rating) throws IllegalArgumentException, IllegalStateException {
        if (outside(rating, 100, 9999)) {
            throw new IllegalArgumentException("a RATING is 100 to 9999");
        }
        if (sea.stringCount >= MOST_STRINGS) {
            throw new IllegalStateException("there are 3 STRINGS");
        }
        return sea.addString(rating);
    }

    public int turbine(int x, int y, int string)
            throws IndexOutOfBoundsException, IllegalArgumentException, IllegalStateException {
        checkString(string);
        if (outside(x, 0, SIDE - 1) || outside(y, 0, SIDE - 1)) {
            throw new IllegalArgumentException("x and y are 0 to 19");
        }
        if (sea.turbineCount >= MOST_TURBINES || sea.isTaken(x, y)) {
            throw new IllegalStateException("there are 8 TURBINES, or one is there");
        }
        return sea.addTurbine(x, y, string);
    }

    public int vessel(int limit) throws IllegalArgumentException, IllegalStateException {
        if (outside(limit, 5, 40)) {
            throw new IllegalArgumentException("a LIMIT of WAVES is 5 to 40");
        }
        if (sea.vesselCount >= MOST_VESSELS) {
            throw new IllegalStateException("there are 3 VESSELS");
        }
        return sea.addVessel(limit);
    }

    public int nominate(int hour, int much) throws IllegalArgumentException {
        if (outside(hour, sea.hour + 1, sea.hour + HOURS_AHEAD) || outside(much, 0, MOST_ORDER)) {
            throw new IllegalArgumentException("the next 24 HOURS, 0 to 20000");
        }
        sea.ledger.put(hour - sea.hour - 1, much);
        return sea.ledger.nominatedCount();
    }

    // ---- what is done

    public int blow(int hours, int sector, int speed, int wave, int price, int order)
            throws IllegalArgumentException {
        if (outside(hours, 1, MOST_HOURS) || outside(sector, 0, SECTORS - 1)
                || outside(speed, 0, MOST_SPEED) || outside(wave, 0, MOST_WAVE)
                || outside(price, LEAST_PRICE, MOST_PRICE) || outside(order, 0, MOST_ORDER)) {
            throw new IllegalArgumentException("no such HOURS");
        }
        sea.weather.set(sector, speed, wave, price, order);
        return sea.passHours(hours);
    }

    public int turn(int turbine, int turn)
            throws IndexOutOfBoundsException, IllegalArgumentException {
        checkTurbine(turbine);
        if (outside(turn, -MOST_TURN, MOST_TURN)) {
            throw new IllegalArgumentException("a TURN is -2 to 2");
        }
        Turbine turned = sea.turbines[turbine];
        int before = turned.turn;
        turned.turn = turn;
        return before;
    }

    public int call(int turbine, boolean goes)
            throws IndexOutOfBoundsException, IllegalStateException {
        checkTurbine(turbine);
        Turbine called = sea.turbines[turbine];
        int before = called.state;
        if (before == FAULTED || before == LOCKED || called.isStoppedByCall() != goes) {
            throw new IllegalStateException("FAULTED, LOCKED, or so already");
        }
        if (goes) {
            called.become(STARTING);
        } else {
            called.stop(BY_CALL);
        }
        return before;
    }

    public int floor(int price) throws IllegalArgumentException {
        if (outside(price, NO_FLOOR, MOST_FLOOR)) {
            throw new IllegalArgumentException("a FLOOR is -51 to 50");
        }
        int before = sea.floor;
        sea.floor = price;
        return before;
    }

    public int sail(int vessel, int turbine)
            throws IndexOutOfBoundsException, IllegalStateException {
        checkVessel(vessel);
        if (turbine != NONE) {
            checkTurbine(turbine);
        }
        Vessel sailing = sea.vessels[vessel];
        if (sailing.crewIsOff || sea.isAnotherAt(turbine, vessel)) {
            throw new IllegalStateException("its crew is on a TURBINE, or another VESSEL is there");
        }
        int before = sailing.at;
        sailing.at = turbine;
        return before;
    }

    public int lock(int vessel, boolean is)
            throws IndexOutOfBoundsException, IllegalStateException {
        checkVessel(vessel);
        int at = sea.vessels[vessel].at;
        if (!sea.hasTurbine(at) || sea.vessels[vessel].crewIsOff) {
            throw new IllegalStateException("in PORT, or the crew is on the TURBINE");
        }
        Turbine there = sea.turbines[at];
        if (is ? !there.canBeLocked() : there.lockedBy != vessel) {
            throw new IllegalStateException("STARTING, LOCKED, or not LOCKED by this VESSEL");
        }
        if (is) {
            there.lockFor(vessel);
        } else {
            there.stop(BY_ITSELF);
        }
        return at;
    }

    public int climb(int vessel, int part) throws IndexOutOfBoundsException {
        checkVessel(vessel);
        checkPart(part);
        Vessel climbing = sea.vessels[vessel];
        if (!sea.hasTurbine(climbing.at)) {
            return 1;
        }
        if (climbing.crewIsOff) {
            return 2;
        }
        if (sea.turbines[climbing.at].lockedBy != vessel) {
            return 3;
        }
        if (sea.weather.wave > climbing.limit) {
            return 4;
        }
        if (!sea.isDaylight()) {
            return 5;
        }
        climbing.climbTo(part);
        return 0;
    }

    public int down(int vessel) throws IndexOutOfBoundsException, IllegalStateException {
        checkVessel(vessel);
        Vessel waiting = sea.vessels[vessel];
        if (!waiting.crewIsOff || sea.weather.wave > waiting.limit) {
            throw new IllegalStateException("its crew is on no TURBINE, or the WAVE is too high");
        }
        return waiting.comeBack();
    }

    // ---- what one asks

    public int ofTurbine(int turbine, int what)
            throws IndexOutOfBoundsException, IllegalArgumentException {
        checkTurbine(turbine);
        Turbine asked = sea.turbines[turbine];
        switch (what) {
            case 0:
                return asked.state;
            case 1:
                return asked.turn;
            case 2:
                return asked.wind;
            case 3:
                return asked.left;
            case 4:
                return sea.deficitOf(turbine);
            case 5:
                return asked.extremes.damage;
            case 6:
                return asked.extremes.count;
            case 7:
                return asked.faultyPart;
            case 8:
                return asked.lockedBy;
            case 9:
                return asked.stoppedBy;
            default:
                throw new IllegalArgumentException("of a TURBINE 0 to 9 is asked");
        }
    }

    public int wear(int turbine, int part) throws IndexOutOfBoundsException {
        checkTurbine(turbine);
        checkPart(part);
        return sea.turbines[turbine].wears[part];
    }

    public int lost(int turbine, int cause) throws IndexOutOfBoundsException {
        checkTurbine(turbine);
        if (outside(cause, 0, CAUSES - 1)) {
            throw new IndexOutOfBoundsException("no such CAUSE");
        }
        return sea.turbines[turbine].losses[cause];
    }

    public int wake(int turbine, int other) throws IndexOutOfBoundsException {
        checkTurbine(turbine);
        checkTurbine(other);
        return sea.deficitBy(other, turbine);
    }

    public int extreme(int turbine, int k) throws IndexOutOfBoundsException {
        checkTurbine(turbine);
        Extremes asked = sea.turbines[turbine].extremes;
        if (outside(k, 0, asked.count - 1)) {
            throw new IndexOutOfBoundsException("no such EXTREME");
        }
        return asked.row[k];
    }

    public int ofString(int string, int what)
            throws IndexOutOfBoundsException, IllegalArgumentException {
        checkString(string);
        Cable asked = sea.strings[string];
        switch (what) {
            case 0:
                return asked.rating;
            case 1:
                return asked.heat;
            case 2:
                return asked.limit();
            case 3:
                return asked.through;
            default:
                throw new IllegalArgumentException("of a STRING 0 to 3 is asked");
        }
    }

    public int ofVessel(int vessel, int what)
            throws IndexOutOfBoundsException, IllegalArgumentException {
        checkVessel(vessel);
        Vessel asked = sea.vessels[vessel];
        switch (what) {
            case 0:
                return asked.at;
            case 1:
                return asked.crewIsOff ? 1 : 0;
            case 2:
                return asked.part;
            case 3:
                return asked.toGo;
            case 4:
                return asked.stranded;
            default:
                throw new IllegalArgumentException("of a VESSEL 0 to 4 is asked");
        }
    }

    public int many(int what) throws IllegalArgumentException {
        switch (what) {
            case 0:
                return sea.turbineCount;
            case 1:
                return sea.stringCount;
            case 2:
                return sea.vesselCount;
            case 3:
                return sea.hour;
            case 4:
                return sea.countOf(RUNNING);
            case 5:
                return sea.countOf(FAULTED);
            case 6:
                return sea.countOf(LOCKED);
            case 7:
                return sea.ledger.potential;
            case 8:
                return sea.ledger.delivered;
            case 9:
                return sea.ledger.money;
            case 10:
                return sea.ledger.nominatedCount();
            case 11:
                return sea.finishedWorks;
            case 12:
                return sea.cycles();
            case 13:
                return sea.ledger.latest;
            default:
                throw new IllegalArgumentException("0 to 13 is asked");
        }
    }

    public double meanDelivered() {
        int potential = sea.ledger.potential;
        return potential == 0 ? 0.0 : (double) sea.ledger.delivered / (double) potential;
    }

    // ---- what would be (nothing is changed)

    public int wouldDeliver(int hours) throws IllegalArgumentException {
        if (outside(hours, 1, MOST_HOURS)) {
            throw new IllegalArgumentException("HOURS are 1 to 24");
        }
        trial.copyFrom(sea);
        return trial.passHours(hours);
    }

    public int bestTurn(int turbine) throws IndexOutOfBoundsException {
        checkTurbine(turbine);
        int best = 0;
        int most = -1;
        for (int i = 0; i < TURNS.length; i++) {
            trial.copyFrom(sea);
            trial.turbines[turbine].turn = TURNS[i];
            int delivered = trial.passHour();
            if (delivered > most) {
                most = delivered;
                best = TURNS[i];
            }
        }
        return best;
    }

    public int bestPlace() {
        return sea.turbineCount >= MOST_TURBINES ? NONE : siting.bestFor(sea);
    }

    public long digest() {
        long d = DIGEST_START;
        for (int what = 0; what < MANY_ANSWERS; what++) {
            d = d * 31 + many(what);
        }
        for (int i = 0; i < sea.turbineCount; i++) {
            d = digestTurbine(d, i) * 31 + bestTurn(i);
        }
        for (int i = 0; i < sea.stringCount; i++) {
            for (int what = 0; what < STRING_ANSWERS; what++) {
                d = d * 31 + ofString(i, what);
            }
        }
        for (int i = 0; i < sea.vesselCount; i++) {
            for (int what = 0; what < VESSEL_ANSWERS; what++) {
                d = d * 31 + ofVessel(i, what);
            }
        }
        return d * 31 + wouldDeliver(DIGEST_HOURS);
    }

    private long digestTurbine(long start, int turbine) {
        long d = start;
        for (int what = 0; what < TURBINE_ANSWERS; what++) {
            d = d * 31 + ofTurbine(turbine, what);
        }
        for (int part = 0; part < PARTS; part++) {
            d = d * 31 + wear(turbine, part);
        }
        for (int cause = 0; cause < CAUSES; cause++) {
            d = d * 31 + lost(turbine, cause);
        }
        for (int k = 0; k < sea.turbines[turbine].extremes.count; k++) {
            d = d * 31 + extreme(turbine, k);
        }
        for (int other = 0; other < sea.turbineCount; other++) {
            d = d * 31 + wake(turbine, other);
        }
        return d;
    }

    // ---- arguments

    private static boolean outside(int value, int least, int most) {
        return value < least || value > most;
    }

    private void checkTurbine(int turbine) {
        if (!sea.hasTurbine(turbine)) {
            throw new IndexOutOfBoundsException("no such TURBINE");
        }
    }

    private void checkString(int string) {
        if (string < 0 || string >= sea.stringCount) {
            throw new IndexOutOfBoundsException("no such STRING");
        }
    }

    private void checkVessel(int vessel) {
        if (vessel < 0 || vessel >= sea.vesselCount) {
            throw new IndexOutOfBoundsException("no such VESSEL");
        }
    }

    private static void checkPart(int part) {
        if (outside(part, 0, PARTS - 1)) {
            throw new IndexOutOfBoundsException("no such PART");
        }
    }

    /** All that there is at sea, and how an HOUR goes over it. */
    private static final class Sea {
        /** These three rows are full of objects from the start; the counts tell which are told. */
        final Turbine[] turbines = new Turbine[MOST_TURBINES];
        final Cable[] strings = new Cable[MOST_STRINGS];
        final Vessel[] vessels = new Vessel[MOST_VESSELS];
        final Weather weather = new Weather();
        final Ledger ledger = new Ledger();
        int turbineCount;
        int stringCount;
        int vesselCount;
        int hour;
        int floor = NO_FLOOR;
        int finishedWorks;

        Sea() {
            for (int i = 0; i < MOST_TURBINES; i++) {
                turbines[i] = new Turbine();
            }
            for (int i = 0; i < MOST_STRINGS; i++) {
                strings[i] = new Cable();
            }
            for (int i = 0; i < MOST_VESSELS; i++) {
                vessels[i] = new Vessel();
            }
        }

        int addString(int rating) {
            strings[stringCount].rating = rating;
            stringCount++;
            return stringCount - 1;
        }

        int addTurbine(int x, int y, int string) {
            Turbine added = turbines[turbineCount];
            added.x = x;
            added.y = y;
            added.string = string;
            turbineCount++;
            return turbineCount - 1;
        }

        int addVessel(int limit) {
            vessels[vesselCount].limit = limit;
            vesselCount++;
            return vesselCount - 1;
        }

        /** Makes this sea like another one, so that what would be can be tried out on it. */
        void copyFrom(Sea other) {
            turbineCount = other.turbineCount;
            stringCount = other.stringCount;
            vesselCount = other.vesselCount;
            hour = other.hour;
            floor = other.floor;
            finishedWorks = other.finishedWorks;
            weather.copyFrom(other.weather);
            ledger.copyFrom(other.ledger);
            for (int i = 0; i < turbineCount; i++) {
                turbines[i].copyFrom(other.turbines[i]);
            }
            for (int i = 0; i < stringCount; i++) {
                strings[i].copyFrom(other.strings[i]);
            }
            for (int i = 0; i < vesselCount; i++) {
                vessels[i].copyFrom(other.vessels[i]);
            }
        }

        boolean hasTurbine(int turbine) {
            return turbine >= 0 && turbine < turbineCount;
        }

        boolean isTaken(int x, int y) {
            for (int i = 0; i < turbineCount; i++) {
                if (turbines[i].x == x && turbines[i].y == y) {
                    return true;
                }
            }
            return false;
        }

        boolean isAnotherAt(int turbine, int vessel) {
            for (int i = 0; i < vesselCount; i++) {
                if (i != vessel && turbine != NONE && vessels[i].at == turbine) {
                    return true;
                }
            }
            return false;
        }

        boolean isDaylight() {
            int ofDay = hour % 24;
            return ofDay >= 7 && ofDay <= 18;
        }

        int countOf(int state) {
            int count = 0;
            for (int i = 0; i < turbineCount; i++) {
                if (turbines[i].state == state) {
                    count++;
                }
            }
            return count;
        }

        int cycles() {
            int sum = 0;
            for (int i = 0; i < turbineCount; i++) {
                sum += turbines[i].extremes.cycles;
            }
            return sum;
        }

        /** The DEFICIT that the WAKE of the first TURBINE lets the other one have. */
        int deficitBy(int first, int other) {
            Turbine ahead = turbines[first];
            Turbine behind = turbines[other];
            if (first == other || ahead.state != RUNNING) {
                return 0;
            }
            return Wakes.deficit(
                    behind.x - ahead.x, behind.y - ahead.y, ahead.turn, weather.sector);
        }

        int deficitOf(int turbine) {
            int greatest = 0;
            int sum = 0;
            for (int i = 0; i < turbineCount; i++) {
                int one = deficitBy(i, turbine);
                greatest = Math.max(greatest, one);
                sum += one;
            }
            return Wakes.together(greatest, sum);
        }

        int passHours(int hours) {
            int sum = 0;
            for (int i = 0; i < hours; i++) {
                sum += passHour();
            }
            return sum;
        }

        /** Lets one HOUR come, with the weather as it is; returns what is DELIVERED in it. */
        int passHour() {
            hour++;
            for (int i = 0; i < turbineCount; i++) {
                turbines[i].settle(weather, floor);
            }
            int potential = Wakes.power(weather.speed);
            for (int i = 0; i < turbineCount; i++) {
                turbines[i].take(Wakes.wind(weather.speed, deficitOf(i)), potential);
            }
            loadStrings();
            int delivered = giveUp(NONE, weather.order, TO_ORDER);
            ledger.book(potential * turbineCount, delivered, weather.price);
            for (int i = 0; i < turbineCount; i++) {
                turbines[i].wearOut();
            }
            for (int i = 0; i < vesselCount; i++) {
                work(vessels[i]);
            }
            return delivered;
        }

        private void loadStrings() {
            for (int i = 0; i < stringCount; i++) {
                strings[i].carry(giveUp(i, strings[i].limit(), TO_CABLE));
            }
        }

        private boolean isOn(int turbine, int string) {
            return string == NONE || turbines[turbine].string == string;
        }

        /**
         * Lets the TURBINES of a STRING (NONE: all of them) give up what is more than the most;
         * returns what is left of them together.
         */
        private int giveUp(int string, int most, int cause) {
            int all = 0;
            for (int i = 0; i < turbineCount; i++) {
                all += isOn(i, string) ? turbines[i].left : 0;
            }
            int tooMuch = all - most;
            if (tooMuch <= 0 || all <= 0) {
                return all;
            }
            int open = tooMuch;
            for (int i = 0; i < turbineCount; i++) {
                if (isOn(i, string)) {
                    int share = turbines[i].left * tooMuch / all;
                    turbines[i].lose(share, cause);
                    open -= share;
                }
            }
            for (int i = 0; i < turbineCount && open > 0; i++) {
                if (isOn(i, string) && turbines[i].left > 0) {
                    turbines[i].lose(1, cause);
                    open--;
                }
            }
            // one round always fits: less than 1 is open for each that has something left
            return most;
        }

        private void work(Vessel vessel) {
            if (!vessel.crewIsOff) {
                return;
            }
            if (weather.wave > vessel.limit + 10) {
                vessel.stranded++;
            }
            int part = vessel.part;
            if (vessel.finishes() && hasTurbine(vessel.at) && part >= 0 && part < PARTS) {
                turbines[vessel.at].wears[part] = 0;
                finishedWorks++;
            }
        }
    }

    /** A TURBINE: why it stands or RUNS, what it makes and loses, and what is worn. */
    private static final class Turbine {
        int x;
        int y;
        int string;
        int state = RUNNING;
        int stoppedBy = BY_ITSELF;
        int faultyPart = NONE;
        int lockedBy = NONE;
        int turn;
        int wind;
        int windBefore;
        /** What is left of the POTENTIAL of the latest HOUR; in the end that is DELIVERED. */
        int left;
        final int[] wears = new int[PARTS];
        final int[] losses = new int[CAUSES];
        final Extremes extremes = new Extremes();

        void copyFrom(Turbine other) {
            x = other.x;
            y = other.y;
            string = other.string;
            state = other.state;
            stoppedBy = other.stoppedBy;
            faultyPart = other.faultyPart;
            lockedBy = other.lockedBy;
            turn = other.turn;
            wind = other.wind;
            windBefore = other.windBefore;
            left = other.left;
            System.arraycopy(other.wears, 0, wears, 0, PARTS);
            System.arraycopy(other.losses, 0, losses, 0, CAUSES);
            extremes.copyFrom(other.extremes);
        }

        void become(int newState) {
            state = newState;
            stoppedBy = BY_ITSELF;
            faultyPart = NONE;
            lockedBy = NONE;
        }

        void stop(int by) {
            become(STOPPED);
            stoppedBy = by;
        }

        void lockFor(int vessel) {
            become(LOCKED);
            lockedBy = vessel;
        }

        boolean isStoppedByCall() {
            return state == STOPPED && stoppedBy == BY_CALL;
        }

        boolean canBeLocked() {
            return state != STARTING && state != LOCKED;
        }

        void fault(int part) {
            become(FAULTED);
            faultyPart = part;
        }

        /** Step 1 of an HOUR: at most one change, and a STARTING one RUNS whatever the SPEED. */
        void settle(Weather weather, int floor) {
            int speed = weather.speed;
            boolean isCheap = weather.price < floor;
            if (state == RUNNING && isCheap) {
                stop(OF_PRICE);
            } else if (state == RUNNING && (speed < 3 || speed > 25)) {
                stop(BY_ITSELF);
            } else if (state == RUNNING && wornPart() != NONE) {
                fault(wornPart());
            } else if (state == STARTING) {
                become(RUNNING);
            } else if (state == STOPPED && mayStart(speed, isCheap)) {
                become(STARTING);
            }
        }

        private boolean mayStart(int speed, boolean isCheap) {
            if (stoppedBy == OF_PRICE) {
                return !isCheap;
            }
            return stoppedBy == BY_ITSELF && speed >= 4 && speed <= 22;
        }

        private int wornPart() {
            for (int part = 0; part < PARTS; part++) {
                if (wears[part] >= WEAR_LIMITS[part]) {
                    return part;
                }
            }
            return NONE;
        }

        /** Step 2 of an HOUR: its WIND, and what that and its STATE and TURN leave. */
        void take(int newWind, int potential) {
            windBefore = wind;
            wind = newWind;
            left = potential;
            // a WIND that is weakened to 25 or less makes no more than the SPEED above 25 does
            lose(Math.max(0, potential - Wakes.power(newWind)), TO_WAKE);
            if (state == RUNNING) {
                lose(left * (3 * turn * turn) / 100, TO_TURN);
            } else {
                lose(left, causeOfStanding());
            }
        }

        private int causeOfStanding() {
            if (state == FAULTED) {
                return TO_FAULT;
            }
            if (state == LOCKED) {
                return TO_LOCK;
            }
            return stoppedBy == BY_ITSELF ? TO_STATE : TO_CALL;
        }

        void lose(int much, int cause) {
            left -= much;
            if (cause >= 0 && cause < CAUSES) {
                losses[cause] += much;
            }
        }

        /** Step 6 of an HOUR. */
        void wearOut() {
            if (state != RUNNING) {
                return;
            }
            wearPart(GEAR, wind > 12 ? 2 : 1);
            wearPart(PITCH, Math.abs(wind - windBefore) >= 5 ? 3 : 1);
            wearPart(BLADES, extremes.put(wind) + Math.abs(turn));
        }

        private void wearPart(int part, int more) {
            if (part >= 0 && part < PARTS) {
                wears[part] = Math.min(MOST_WEAR, wears[part] + more);
            }
        }
    }

    /** The row of EXTREMES of a TURBINE, and the DAMAGE of the CYCLES that went out of it. */
    private static final class Extremes {
        final int[] row = new int[MOST_EXTREMES];
        int count;
        int damage;
        int cycles;

        void copyFrom(Extremes other) {
            System.arraycopy(other.row, 0, row, 0, MOST_EXTREMES);
            count = other.count;
            damage = other.damage;
            cycles = other.cycles;
        }

        /** Puts a WIND to the row; returns the DAMAGE that it does. */
        int put(int wind) {
            if (count > 0 && row[count - 1] == wind) {
                return 0;
            }
            if (goesOn(wind)) {
                count--;
            } else if (count >= MOST_EXTREMES) {
                takeOut(0, 1);
            }
            row[count] = wind;
            count++;
            int more = 0;
            // each CYCLE makes the row shorter, so there are fewer than the row has places
            for (int i = 0; i < MOST_EXTREMES && hasCycle(); i++) {
                int distance = row[count - 2] - row[count - 3];
                more += distance * distance / 10;
                cycles++;
                takeOut(count - 3, count == 3 ? 1 : 2);
            }
            damage += more;
            return more;
        }

        private boolean goesOn(int wind) {
            if (count < 2) {
                return false;
            }
            int last = row[count - 1];
            return last > row[count - 2] ? wind > last : wind < last;
        }

        private boolean hasCycle() {
            return count >= 3
                    && Math.abs(row[count - 1] - row[count - 2])
                            >= Math.abs(row[count - 2] - row[count - 3]);
        }

        private void takeOut(int from, int many) {
            for (int i = from; i + many < count; i++) {
                row[i] = row[i + many];
            }
            count -= many;
        }
    }

    /** A STRING of cables, named so because String is the library's. */
    private static final class Cable {
        int rating;
        int heat;
        int through;

        void copyFrom(Cable other) {
            rating = other.rating;
            heat = other.heat;
            through = other.through;
        }

        int limit() {
            return rating - heat / 10;
        }

        void carry(int much) {
            through = much;
            heat = (3 * heat + much) / 4;
        }
    }

    /** A VESSEL and its crew. */
    private static final class Vessel {
        int limit;
        int at = NONE;
        boolean crewIsOff;
        int part = NONE;
        int toGo;
        int stranded;

        void copyFrom(Vessel other) {
            limit = other.limit;
            at = other.at;
            crewIsOff = other.crewIsOff;
            part = other.part;
            toGo = other.toGo;
            stranded = other.stranded;
        }

        void climbTo(int newPart) {
            if (newPart < 0 || newPart >= PARTS) {
                return;
            }
            crewIsOff = true;
            part = newPart;
            toGo = WORK_HOURS[newPart];
        }

        /** One HOUR of work; returns whether the work ends with it. */
        boolean finishes() {
            if (part == NONE) {
                return false;
            }
            toGo--;
            if (toGo > 0) {
                return false;
            }
            part = NONE;
            return true;
        }

        int comeBack() {
            int before = toGo;
            crewIsOff = false;
            part = NONE;
            toGo = 0;
            return before;
        }
    }

    /** What the latest HOUR was like. */
    private static final class Weather {
        int sector;
        int speed;
        int wave;
        int price;
        int order = MOST_ORDER;

        void set(int newSector, int newSpeed, int newWave, int newPrice, int newOrder) {
            sector = newSector;
            speed = newSpeed;
            wave = newWave;
            price = newPrice;
            order = newOrder;
        }

        void copyFrom(Weather other) {
            set(other.sector, other.speed, other.wave, other.price, other.order);
        }
    }

    /** What was NOMINATED, DELIVERED and earned. */
    private static final class Ledger {
        /** The next HOUR first; NONE where nothing is NOMINATED. */
        final int[] nominated = new int[HOURS_AHEAD];
        int potential;
        int delivered;
        int latest;
        int money;

        Ledger() {
            for (int i = 0; i < HOURS_AHEAD; i++) {
                nominated[i] = NONE;
            }
        }

        void copyFrom(Ledger other) {
            System.arraycopy(other.nominated, 0, nominated, 0, HOURS_AHEAD);
            potential = other.potential;
            delivered = other.delivered;
            latest = other.latest;
            money = other.money;
        }

        void put(int ahead, int much) {
            if (ahead >= 0 && ahead < HOURS_AHEAD) {
                nominated[ahead] = much;
            }
        }

        int nominatedCount() {
            int count = 0;
            for (int i = 0; i < HOURS_AHEAD; i++) {
                if (nominated[i] != NONE) {
                    count++;
                }
            }
            return count;
        }

        /** Step 5 of an HOUR. */
        void book(int could, int much, int price) {
            potential += could;
            latest = much;
            delivered += much;
            money += much * price / 100;
            int due = takeNominated();
            if (due != NONE) {
                money -= Math.abs(due - much) * 20 / 100;
            }
        }

        private int takeNominated() {
            int due = nominated[0];
            for (int i = 1; i < HOURS_AHEAD; i++) {
                nominated[i - 1] = nominated[i];
            }
            nominated[HOURS_AHEAD - 1] = NONE;
            return due;
        }
    }

    /** The rules of WAKES, WIND and POWER. */
    private static final class Wakes {
        private Wakes() {
        }

        /** The DEFICIT of one that is (dx, dy) away from a RUNNING one with this TURN. */
        static int deficit(int dx, int dy, int turn, int sector) {
            if (sector < 0 || sector >= SECTORS) {
                return 0;
            }
            int p = WIND_P[sector];
            int q = WIND_Q[sector];
            int along = dx * p + dy * q;
            if (along < 1 || along > MOST_ALONG) {
                return 0;
            }
            int across = dx * q - dy * p - turn;
            int width = 1 + along / 4;
            return across < -width || across > width ? 0 : 42 - 3 * along;
        }

        static int together(int greatest, int sum) {
            return Math.min(MOST_DEFICIT, greatest + (sum - greatest) / 2);
        }

        static int wind(int speed, int deficit) {
            return speed * (100 - deficit) / 100;
        }

        static int power(int wind) {
            if (wind < 4 || wind > 25) {
                return 0;
            }
            return Math.min(MOST_POWER, wind * wind * wind);
        }
    }

    /** Looks for the best place of one TURBINE more. */
    private static final class Siting {
        /** Of each SECTOR and TURBINE, the DEFICITS by those that are there already. */
        final int[] greatest = new int[SECTORS * MOST_TURBINES];
        final int[] sums = new int[SECTORS * MOST_TURBINES];

        int bestFor(Sea sea) {
            for (int sector = 0; sector < SECTORS; sector++) {
                takeDeficits(sea, sector);
            }
            int best = NONE;
            int most = -1;
            for (int place = 0; place < SIDE * SIDE; place++) {
                int x = place / SIDE;
                int y = place % SIDE;
                int made = sea.isTaken(x, y) ? -1 : powerWith(sea, x, y);
                if (made > most) {
                    most = made;
                    best = place;
                }
            }
            return best;
        }

        private void takeDeficits(Sea sea, int sector) {
            for (int i = 0; i < sea.turbineCount; i++) {
                int row = sector * MOST_TURBINES + i;
                greatest[row] = 0;
                sums[row] = 0;
                for (int k = 0; k < sea.turbineCount; k++) {
                    Turbine ahead = sea.turbines[k];
                    int one = Wakes.deficit(sea.turbines[i].x - ahead.x,
                            sea.turbines[i].y - ahead.y, 0, sector);
                    greatest[row] = Math.max(greatest[row], one);
                    sums[row] += one;
                }
            }
        }

        private int powerWith(Sea sea, int x, int y) {
            int made = 0;
            for (int sector = 0; sector < SECTORS; sector++) {
                int newGreatest = 0;
                int newSum = 0;
                for (int i = 0; i < sea.turbineCount; i++) {
                    int dx = x - sea.turbines[i].x;
                    int dy = y - sea.turbines[i].y;
                    int onNew = Wakes.deficit(dx, dy, 0, sector);
                    int onOld = Wakes.deficit(-dx, -dy, 0, sector);
                    int row = sector * MOST_TURBINES + i;
                    newGreatest = Math.max(newGreatest, onNew);
                    newSum += onNew;
                    made += powerAt(Math.max(greatest[row], onOld), sums[row] + onOld);
                }
                made += powerAt(newGreatest, newSum);
            }
            return made;
        }

        private static int powerAt(int greatestOne, int sum) {
            return Wakes.power(Wakes.wind(PLACE_SPEED, Wakes.together(greatestOne, sum)));
        }
    }
}
