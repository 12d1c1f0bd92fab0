import java.util.ArrayDeque;
import java.util.ArrayList;
import java.util.HashMap;
import java.util.List;
import java.util.Map;

/**
 * The document once more, written apart from the class, with the Java library and without any care
 * for room: each answer is worked out from the plain words. Random runs compare the two.
 */
final class Model {
    static final class T {
        int x, y, s, turn, wind, delivered, damage, cycles;
        /** STOPPED by itself, by a call, of a price; STARTING, RUNNING, FAULTED, LOCKED. */
        String state = "RUNNING";
        int cause = -1, locker = -1;
        int[] wear = new int[3];
        int[] lost = new int[8];
        List<Integer> row = new ArrayList<>();

        T copy() {
            T c = new T();
            c.x = x; c.y = y; c.s = s; c.turn = turn; c.wind = wind; c.delivered = delivered;
            c.damage = damage; c.cycles = cycles; c.state = state; c.cause = cause;
            c.locker = locker; c.wear = wear.clone(); c.lost = lost.clone();
            c.row = new ArrayList<>(row);
            return c;
        }

        boolean runs() {
            return state.equals("RUNNING");
        }

        int number() {
            return state.startsWith("STOPPED") ? 0
                    : List.of("STARTING", "RUNNING", "FAULTED", "LOCKED").indexOf(state) + 1;
        }
    }

    static final class V {
        int limit, at = -1, part = -1, toGo, stranded;
        boolean off;

        V copy() {
            V c = new V();
            c.limit = limit; c.at = at; c.part = part; c.toGo = toGo;
            c.stranded = stranded; c.off = off;
            return c;
        }
    }

    List<T> ts = new ArrayList<>();
    List<int[]> strings = new ArrayList<>(); // RATING, HEAT, through
    List<V> vs = new ArrayList<>();
    Map<Integer, Integer> nominated = new HashMap<>();
    int hour, sector, speed, wave, price, order = 20000, floor = -51;
    int potential, delivered, money, finished, latest;

    Model copy() {
        Model m = new Model();
        for (T t : ts) m.ts.add(t.copy());
        for (int[] s : strings) m.strings.add(s.clone());
        for (V v : vs) m.vs.add(v.copy());
        m.nominated = new HashMap<>(nominated);
        m.hour = hour; m.sector = sector; m.speed = speed; m.wave = wave; m.price = price;
        m.order = order; m.floor = floor; m.potential = potential; m.delivered = delivered;
        m.money = money; m.finished = finished; m.latest = latest;
        return m;
    }

    private static void index(boolean ok) {
        if (!ok) throw new IndexOutOfBoundsException();
    }

    private static void argument(boolean ok) {
        if (!ok) throw new IllegalArgumentException();
    }

    private static void state(boolean ok) {
        if (!ok) throw new IllegalStateException();
    }

    private static boolean in(int v, int a, int b) {
        return a <= v && v <= b;
    }

    int string(int rating) {
        argument(in(rating, 100, 9999));
        state(strings.size() < 3);
        strings.add(new int[] {rating, 0, 0});
        return strings.size() - 1;
    }

    int turbine(int x, int y, int s) {
        index(in(s, 0, strings.size() - 1));
        argument(in(x, 0, 19) && in(y, 0, 19));
        state(ts.size() < 8 && ts.stream().noneMatch(t -> t.x == x && t.y == y));
        T t = new T();
        t.x = x; t.y = y; t.s = s;
        ts.add(t);
        return ts.size() - 1;
    }

    int vessel(int limit) {
        argument(in(limit, 5, 40));
        state(vs.size() < 3);
        V v = new V();
        v.limit = limit;
        vs.add(v);
        return vs.size() - 1;
    }

    int nominate(int h, int much) {
        argument(h > hour && (long) h <= hour + 24L && in(much, 0, 20000));
        nominated.put(h, much);
        return nominatedAhead();
    }

    private int nominatedAhead() {
        return (int) nominated.keySet().stream().filter(h -> h > hour).count();
    }

    int blow(int hours, int sec, int sp, int w, int pr, int or) {
        argument(in(hours, 1, 24) && in(sec, 0, 7) && in(sp, 0, 30) && in(w, 0, 60)
                && in(pr, -50, 200) && in(or, 0, 20000));
        sector = sec; speed = sp; wave = w; price = pr; order = or;
        return run(hours);
    }

    private int run(int hours) {
        int before = delivered;
        for (int i = 0; i < hours; i++) hour();
        return delivered - before;
    }

    static int power(int v) {
        return v < 4 || v > 25 ? 0 : Math.min(2000, v * v * v);
    }

    static int wakeOn(int x, int y, int turn, int u, int v, int sector) {
        double angle = Math.PI / 4 * sector;
        int p = (int) -Math.round(Math.sin(angle) * 1.2);
        int q = (int) -Math.round(Math.cos(angle) * 1.2);
        int along = (u - x) * p + (v - y) * q;
        int across = (u - x) * q - (v - y) * p;
        int w = along / 4 + 1;
        boolean is = in(along, 1, 12) && in(across - turn, -w, w);
        return is ? 42 - along * 3 : 0;
    }

    int wake(int i, int other) {
        index(in(i, 0, ts.size() - 1) && in(other, 0, ts.size() - 1));
        T a = ts.get(other);
        T b = ts.get(i);
        return i != other && a.runs() ? wakeOn(a.x, a.y, a.turn, b.x, b.y, sector) : 0;
    }

    static int together(List<Integer> deficits) {
        List<Integer> sorted = new ArrayList<>(deficits);
        sorted.sort(null);
        if (sorted.isEmpty()) return 0;
        int greatest = sorted.remove(sorted.size() - 1);
        int rest = 0;
        for (int d : sorted) rest += d;
        return Math.min(60, greatest + rest / 2);
    }

    private int deficit(int i) {
        List<Integer> all = new ArrayList<>();
        for (int k = 0; k < ts.size(); k++) all.add(wake(i, k));
        return together(all);
    }

    private void step1(T t) {
        boolean below = price < floor;
        if (t.runs() && below) {
            t.state = "STOPPED of a price";
        } else if (t.state.equals("STOPPED of a price") && !below) {
            t.state = "STARTING";
        } else if (t.state.equals("STARTING")) {
            t.state = "RUNNING";
        } else if (t.state.equals("STOPPED") && in(speed, 4, 22)) {
            t.state = "STARTING";
        } else if (t.runs()) {
            if (!in(speed, 3, 25)) {
                t.state = "STOPPED";
            } else if (t.wear[0] >= 150 || t.wear[1] >= 120 || t.wear[2] >= 200) {
                t.state = "FAULTED";
                t.cause = t.wear[0] >= 150 ? 0 : t.wear[1] >= 120 ? 1 : 2;
            }
        }
    }

    private void hour() {
        hour++;
        for (T t : ts) step1(t);
        int[] left = new int[ts.size()];
        int[] old = new int[ts.size()];
        for (int i = 0; i < ts.size(); i++) {
            T t = ts.get(i);
            old[i] = t.wind;
            t.wind = speed * (100 - deficit(i)) / 100;
            int could = power(speed);
            potential += could;
            left[i] = Math.min(could, power(t.wind));
            t.lost[0] += could - left[i];
            int gone = t.runs() ? 3 * t.turn * t.turn * left[i] / 100 : left[i];
            t.lost[why(t)] += gone;
            left[i] -= gone;
        }
        for (int s = 0; s < strings.size(); s++) {
            int[] string = strings.get(s);
            List<Integer> on = new ArrayList<>();
            for (int i = 0; i < ts.size(); i++) if (ts.get(i).s == s) on.add(i);
            string[2] = cut(left, on, string[0] - string[1] / 10, 6);
            string[1] = (3 * string[1] + string[2]) / 4;
        }
        List<Integer> all = new ArrayList<>();
        for (int i = 0; i < ts.size(); i++) all.add(i);
        latest = cut(left, all, order, 7);
        delivered += latest;
        money += latest * price / 100;
        Integer due = nominated.get(hour);
        if (due != null) money -= Math.abs(due - latest) * 20 / 100;
        for (int i = 0; i < ts.size(); i++) {
            ts.get(i).delivered = left[i];
            if (ts.get(i).runs()) wearOut(ts.get(i), old[i]);
        }
        for (V v : vs) crew(v);
    }

    private static int why(T t) {
        return switch (t.state) {
            case "STOPPED", "STARTING" -> 1;
            case "FAULTED" -> 2;
            case "LOCKED" -> 3;
            case "RUNNING" -> 5;
            default -> 4;
        };
    }

    private int cut(int[] left, List<Integer> which, int most, int cause) {
        int all = 0;
        for (int i : which) all += left[i];
        int over = all - most;
        if (over <= 0) return all;
        int still = all;
        for (int i : which) {
            int gives = (int) ((long) left[i] * over / all);
            left[i] -= gives;
            ts.get(i).lost[cause] += gives;
            still -= gives;
        }
        while (still > most) {
            for (int i : which) {
                if (still > most && left[i] > 0) {
                    left[i]--;
                    ts.get(i).lost[cause]++;
                    still--;
                }
            }
        }
        return still;
    }

    private static void wearOut(T t, int old) {
        t.wear[0] += t.wind > 12 ? 2 : 1;
        t.wear[1] += Math.abs(t.wind - old) >= 5 ? 3 : 1;
        int damage = put(t, t.wind);
        t.damage += damage;
        t.wear[2] += damage + Math.abs(t.turn);
        for (int p = 0; p < 3; p++) t.wear[p] = Math.min(9999, t.wear[p]);
    }

    private static int put(T t, int wind) {
        ArrayDeque<Integer> row = new ArrayDeque<>(t.row); // the last one is row.peekLast()
        if (!row.isEmpty() && row.peekLast() == wind) return 0;
        if (row.size() >= 2) {
            int last = row.removeLast();
            int ahead = row.peekLast();
            if (Integer.signum(last - ahead) != Integer.signum(wind - last)) row.addLast(last);
        }
        if (row.size() == 30) row.removeFirst();
        row.addLast(wind);
        int damage = 0;
        while (row.size() >= 3) {
            int c = row.removeLast();
            int b = row.removeLast();
            int a = row.removeLast();
            if (Math.abs(c - b) < Math.abs(b - a)) {
                row.addLast(a);
                row.addLast(b);
                row.addLast(c);
                break;
            }
            if (row.isEmpty()) row.addLast(b);
            row.addLast(c);
            damage += (b - a) * (b - a) / 10;
            t.cycles++;
        }
        t.row = new ArrayList<>(row);
        return damage;
    }

    private void crew(V v) {
        if (v.off && wave > v.limit + 10) v.stranded++;
        if (v.off && v.part >= 0) {
            v.toGo--;
            if (v.toGo == 0) {
                ts.get(v.at).wear[v.part] = 0;
                v.part = -1;
                finished++;
            }
        }
    }

    int turn(int i, int turn) {
        index(in(i, 0, ts.size() - 1));
        argument(in(turn, -2, 2));
        int before = ts.get(i).turn;
        ts.get(i).turn = turn;
        return before;
    }

    int call(int i, boolean goes) {
        index(in(i, 0, ts.size() - 1));
        T t = ts.get(i);
        state(!t.state.equals("FAULTED") && !t.state.equals("LOCKED"));
        state(goes == t.state.equals("STOPPED by a call"));
        int before = t.number();
        t.state = goes ? "STARTING" : "STOPPED by a call";
        return before;
    }

    int floor(int p) {
        argument(in(p, -51, 50));
        int before = floor;
        floor = p;
        return before;
    }

    private V vesselOf(int v) {
        index(in(v, 0, vs.size() - 1));
        return vs.get(v);
    }

    int sail(int v, int to) {
        V ship = vesselOf(v);
        index(in(to, -1, ts.size() - 1));
        state(!ship.off && (to < 0 || vs.stream().noneMatch(o -> o != ship && o.at == to)));
        int before = ship.at;
        ship.at = to;
        return before;
    }

    int lock(int v, boolean is) {
        V ship = vesselOf(v);
        state(ship.at >= 0 && !ship.off);
        T t = ts.get(ship.at);
        if (is) {
            state(!t.state.equals("STARTING") && !t.state.equals("LOCKED"));
            t.state = "LOCKED";
            t.locker = v;
            t.cause = -1;
        } else {
            state(t.state.equals("LOCKED") && t.locker == v);
            t.state = "STOPPED";
            t.locker = -1;
        }
        return ship.at;
    }

    int climb(int v, int part) {
        V ship = vesselOf(v);
        index(in(part, 0, 2));
        if (ship.at < 0) return 1;
        if (ship.off) return 2;
        if (ts.get(ship.at).locker != v) return 3;
        if (wave > ship.limit) return 4;
        if (!in(hour % 24, 7, 18)) return 5;
        ship.off = true;
        ship.part = part;
        ship.toGo = part == 0 ? 4 : part == 1 ? 2 : 6;
        return 0;
    }

    int down(int v) {
        V ship = vesselOf(v);
        state(ship.off && wave <= ship.limit);
        int before = ship.toGo;
        ship.off = false;
        ship.part = -1;
        ship.toGo = 0;
        return before;
    }

    int ofTurbine(int i, int what) {
        index(in(i, 0, ts.size() - 1));
        argument(in(what, 0, 9));
        T t = ts.get(i);
        int by = t.state.endsWith("call") ? 1 : t.state.endsWith("price") ? 2 : 0;
        return new int[] {t.number(), t.turn, t.wind, t.delivered, deficit(i), t.damage,
            t.row.size(), t.cause, t.locker, by}[what];
    }

    int wear(int i, int part) {
        index(in(i, 0, ts.size() - 1) && in(part, 0, 2));
        return ts.get(i).wear[part];
    }

    int lost(int i, int cause) {
        index(in(i, 0, ts.size() - 1) && in(cause, 0, 7));
        return ts.get(i).lost[cause];
    }

    int extreme(int i, int k) {
        index(in(i, 0, ts.size() - 1) && in(k, 0, ts.get(i).row.size() - 1));
        return ts.get(i).row.get(k);
    }

    int ofString(int s, int what) {
        index(in(s, 0, strings.size() - 1));
        argument(in(what, 0, 3));
        int[] string = strings.get(s);
        return new int[] {string[0], string[1], string[0] - string[1] / 10, string[2]}[what];
    }

    int ofVessel(int v, int what) {
        V ship = vesselOf(v);
        argument(in(what, 0, 4));
        return new int[] {ship.at, ship.off ? 1 : 0, ship.part, ship.toGo, ship.stranded}[what];
    }

    int many(int what) {
        argument(in(what, 0, 13));
        int[] states = new int[5];
        int cycles = 0;
        for (T t : ts) {
            states[t.number()]++;
            cycles += t.cycles;
        }
        return new int[] {ts.size(), strings.size(), vs.size(), hour, states[2], states[3],
            states[4], potential, delivered, money, nominatedAhead(), finished, cycles,
            latest}[what];
    }

    double meanDelivered() {
        return potential == 0 ? 0 : (double) delivered / potential;
    }

    int wouldDeliver(int hours) {
        argument(in(hours, 1, 24));
        return copy().run(hours);
    }

    int bestTurn(int i) {
        index(in(i, 0, ts.size() - 1));
        int best = 99;
        int most = -1;
        for (int turn = -2; turn <= 2; turn++) {
            Model m = copy();
            m.ts.get(i).turn = turn;
            int d = m.run(1);
            if (d > most || d == most && Math.abs(turn) < Math.abs(best)) {
                most = d;
                best = turn;
            }
        }
        return best;
    }

    int bestPlace() {
        if (ts.size() >= 8) return -1;
        int best = -1;
        int most = -1;
        for (int place = 0; place < 400; place++) {
            List<int[]> all = new ArrayList<>();
            boolean free = true;
            for (T t : ts) {
                all.add(new int[] {t.x, t.y});
                free &= 20 * t.x + t.y != place;
            }
            all.add(new int[] {place / 20, place % 20});
            if (free && made(all) > most) {
                most = made(all);
                best = place;
            }
        }
        return best;
    }

    private static int made(List<int[]> all) {
        int sum = 0;
        for (int s = 0; s < 8; s++) {
            for (int[] b : all) {
                List<Integer> deficits = new ArrayList<>();
                for (int[] a : all) deficits.add(wakeOn(a[0], a[1], 0, b[0], b[1], s));
                sum += power(10 * (100 - together(deficits)) / 100);
            }
        }
        return sum;
    }

    long digest() {
        List<Integer> v = new ArrayList<>();
        for (int w = 0; w < 14; w++) v.add(many(w));
        for (int i = 0; i < ts.size(); i++) {
            for (int w = 0; w < 10; w++) v.add(ofTurbine(i, w));
            for (int p = 0; p < 3; p++) v.add(wear(i, p));
            for (int c = 0; c < 8; c++) v.add(lost(i, c));
            v.addAll(ts.get(i).row);
            for (int k = 0; k < ts.size(); k++) v.add(wake(i, k));
            v.add(bestTurn(i));
        }
        for (int s = 0; s < strings.size(); s++) for (int w = 0; w < 4; w++) v.add(ofString(s, w));
        for (int s = 0; s < vs.size(); s++) for (int w = 0; w < 5; w++) v.add(ofVessel(s, w));
        v.add(wouldDeliver(3));
        long d = 58176;
        for (int x : v) d = d * 31 + x;
        return d;
    }
}
