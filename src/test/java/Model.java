import java.util.ArrayDeque;
import java.util.ArrayList;
import java.util.Arrays;
import java.util.Deque;
import java.util.HashMap;
import java.util.List;
import java.util.Map;

/**
 * The document once more, in the plainest form and by other means than LampRound: everything is
 * recomputed at every call, all rows are tried, texts become trees. ModelTest compares both.
 */
final class Model {
    static final int NONE = -1;

    static final class House implements Cloneable {
        int place, people, oil, owed, had, bid, says;
        Integer last = null;

        House copy() {
            try {
                return (House) clone();
            } catch (CloneNotSupportedException e) {
                throw new IllegalStateException(e);
            }
        }
    }

    record Path(int a, int b, int n, int until) { }

    static final class Need {
        int kind, at, from, to, worth;
        Integer done = null;
        boolean spoilt = false;

        Need copy() {
            Need n = new Need();
            n.kind = kind;
            n.at = at;
            n.from = from;
            n.to = to;
            n.worth = worth;
            n.done = done;
            n.spoilt = spoilt;
            return n;
        }
    }

    record Line(int night, int house, int lit, int oil, int snow, int needs) { }

    record Clue(int night, int set) { }

    interface Expression {
        int at(World w, int house);
    }

    record LawLine(Expression e, Expression when) { }

    /** All that is; copied whole. */
    static final class World {
        List<House> houses = new ArrayList<>();
        Integer lamp = null;
        int night = 0, snow = 0, flakes = 0, margin = 0, dusk = 20, due = 30, state = 0;
        boolean[][] friends = new boolean[10][10];
        List<Path> paths = new ArrayList<>();
        List<Need> needs = new ArrayList<>();
        List<LawLine> turns = new ArrayList<>();
        List<LawLine> burning = new ArrayList<>();
        List<Integer> round = new ArrayList<>();
        List<Line> book = new ArrayList<>();
        List<Clue> clues = new ArrayList<>();

        World copy() {
            World w = new World();
            for (House h : houses) w.houses.add(h.copy());
            w.lamp = lamp;
            w.night = night;
            w.snow = snow;
            w.flakes = flakes;
            w.margin = margin;
            w.dusk = dusk;
            w.due = due;
            w.state = state;
            for (int i = 0; i < 10; i++) w.friends[i] = friends[i].clone();
            w.paths.addAll(paths);
            for (Need n : needs) w.needs.add(n.copy());
            w.turns.addAll(turns);
            w.burning.addAll(burning);
            w.round.addAll(round);
            w.book.addAll(book);
            w.clues.addAll(clues);
            return w;
        }

        /** Floyd's way; null where there is none. */
        Integer far(int a, int b, int snowThen) {
            int n = houses.size();
            Integer[][] d = new Integer[n][n];
            for (int i = 0; i < n; i++) d[i][i] = 0;
            for (Path p : paths) {
                if (snowThen <= p.until && (d[p.a][p.b] == null || d[p.a][p.b] > p.n)) {
                    d[p.a][p.b] = p.n;
                    d[p.b][p.a] = p.n;
                }
            }
            for (int k = 0; k < n; k++)
                for (int i = 0; i < n; i++)
                    for (int j = 0; j < n; j++)
                        if (d[i][k] != null && d[k][j] != null
                            && (d[i][j] == null || d[i][j] > d[i][k] + d[k][j]))
                            d[i][j] = d[i][k] + d[k][j];
            return d[a][b];
        }

        boolean reached(int a, int b) {
            return reached(a, b, snow);
        }

        boolean reached(int a, int b, int snowThen) {
            Integer f = far(a, b, snowThen);
            return f != null && f <= dusk;
        }

        boolean open(Need n) {
            return n.done == null && !n.spoilt && n.from <= night && night <= n.to;
        }

        int waited(int h) {
            Integer last = houses.get(h).last;
            return last == null ? night + 1 : night - last;
        }

        int tells(List<LawLine> law, int h, int without) {
            for (LawLine l : law) {
                if (l.when == null || l.when.at(this, h) != 0) return l.e.at(this, h);
            }
            return without;
        }

        int turn(int h) {
            return tells(turns, h, waited(h));
        }

        int burn(int h) {
            int b = tells(burning, h, 1);
            return b < 0 ? 0 : b > 99 ? 99 : b;
        }

        boolean pass(boolean thought) {
            int snowAhead = snow;
            if (!round.isEmpty()) {
                int go = round.remove(0);
                if (go >= 0 && reached(lamp, go)) lamp = go;
            } else {
                int most = lamp;
                boolean any = false;
                int value = 0;
                for (int h = 0; h < houses.size(); h++) {
                    if (reached(lamp, h)) {
                        int t = turn(h);
                        if (!any || t > value) {
                            any = true;
                            value = t;
                            most = h;
                        }
                    }
                }
                lamp = most;
            }
            House house = houses.get(lamp);
            int burn = burn(lamp);
            boolean lit = house.oil >= burn;
            int burnt = lit ? burn : house.oil;
            house.oil = lit ? house.oil - burn : 0;
            int set = 0;
            if (lit) {
                boolean ahead = house.last != null && house.last == night - 1;
                house.had++;
                for (int i = 0; i < needs.size(); i++) {
                    Need n = needs.get(i);
                    if (n.at == lamp && open(n) && (n.kind != 3 || ahead)) {
                        n.done = night;
                        set |= 1 << i;
                    }
                }
                house.last = night;
                if (house.owed > 0) house.owed--;
            }
            for (House h : houses) {
                int since = night - (h.last == null ? -1 : h.last);
                if (since > 0 && since % due == 0 && h.owed < 99) h.owed++;
            }
            for (Need n : needs) if (n.to == night && n.done == null) n.spoilt = true;
            if (!thought) {
                if (book.size() < 150) book.add(new Line(night, lamp, lit ? 1 : 0, burnt, snowAhead, set));
                if (flakes > 0) {
                    state = state * 1664525 + 1013904223;
                    long top = (state & 0xffffffffL) / 256;
                    if (top % 1000 < flakes) snow = Math.min(9, snow + 1);
                    else snow = Math.max(0, snow - 1);
                }
            }
            night++;
            return lit;
        }
    }

    World w = new World();
    World image = null;
    Deque<World> past = new ArrayDeque<>();
    byte[] tape = new byte[0];
    int fault = 0, place = NONE;

    int n() {
        return w.houses.size();
    }

    boolean is(int h) {
        return h >= 0 && h < n();
    }

    int state(int v) {
        int was = w.state;
        w.state = v;
        past.clear();
        return was;
    }

    int house(int place, int people, int oil) {
        if (place < 0 || place > 63 || people < 1 || people > 20 || oil < 0 || oil > 999 || n() == 10) return NONE;
        for (House h : w.houses) if (h.place == place) return NONE;
        House h = new House();
        h.place = place;
        h.people = people;
        h.oil = oil;
        w.houses.add(h);
        if (w.lamp == null) w.lamp = 0;
        past.clear();
        return n() - 1;
    }

    private static boolean in(int v, int least, int most) {
        return v >= least && v <= most;
    }

    boolean set(int what, int who, int v) {
        if (what < 0 || what > 10) return false;
        if (what > 5 && !is(who)) return false;
        House h = what > 5 ? w.houses.get(who) : null;
        if (what == 0 && in(v, 0, 9)) w.snow = v;
        else if (what == 1 && in(v, 0, 1000)) w.flakes = v;
        else if (what == 2 && in(v, 0, 99)) w.margin = v;
        else if (what == 3 && in(v, 1, 99)) w.dusk = v;
        else if (what == 4 && in(v, 1, 99)) w.due = v;
        else if (what == 5 && is(v)) w.lamp = v;
        else if (what == 6 && in(v, 1, 20)) h.people = v;
        else if (what == 7 && in(v, 0, 999)) h.oil = v;
        else if (what == 8 && in(v, 0, 99)) h.owed = v;
        else if (what == 9 && in(v, 0, 99)) h.bid = v;
        else if (what == 10 && in(v, 0, 9999)) h.says = v;
        else return false;
        past.clear();
        return true;
    }

    boolean friends(int a, int b, boolean are) {
        if (!is(a) || !is(b) || a == b) return false;
        w.friends[a][b] = are;
        w.friends[b][a] = are;
        past.clear();
        return true;
    }

    int feed(int... five) {
        if (tape.length + 20 > 400) return NONE;
        int at = tape.length;
        tape = Arrays.copyOf(tape, at + 20);
        for (int v : five) for (int s = 24; s >= 0; s -= 8) tape[at++] = (byte) (v >> s);
        return at;
    }

    boolean end(int n) {
        if (n < 0 || n > tape.length) return false;
        tape = Arrays.copyOf(tape, n);
        return true;
    }

    int text(int k) {
        byte[] text = tape;
        tape = new byte[0];
        fault = 0;
        place = NONE;
        if (k < 0 || k > 4) return NONE;
        ModelReader reader = new ModelReader(text, k, n());
        try {
            int count = reader.read();
            if (k == 0) w.turns = reader.lines;
            if (k == 1) w.burning = reader.lines;
            if (k == 2) w.paths = reader.paths;
            if (k == 3) w.needs = reader.needs;
            if (k == 4) w.round = reader.round;
            if (k > 1) past.clear();
            return count;
        } catch (ModelReader.Fault f) {
            fault = f.what;
            place = f.place;
            return NONE;
        }
    }

    int fault(int what) {
        return what == 0 ? fault : what == 1 ? place : NONE;
    }

    int nights(int n) {
        if (n < 1 || n > 60 || n() == 0 || w.night + n > 9999) return NONE;
        int lit = 0;
        for (int i = 0; i < n; i++) {
            past.addLast(w.copy());
            if (past.size() > 6) past.removeFirst();
            if (w.pass(false)) lit++;
        }
        return lit;
    }

    boolean envies(int a, int b, int[] had) {
        return had[b] * w.houses.get(a).people > (had[a] + w.margin) * w.houses.get(b).people;
    }

    int[] had() {
        int[] had = new int[n()];
        for (int h = 0; h < n(); h++) had[h] = w.houses.get(h).had;
        return had;
    }

    boolean sees(int a, int b) {
        int ax = w.houses.get(a).place % 8, ay = w.houses.get(a).place / 8;
        int bx = w.houses.get(b).place % 8, by = w.houses.get(b).place / 8;
        int dx = bx - ax, dy = by - ay;
        if (Math.abs(dx) + Math.abs(dy) > 5) return false;
        int g = gcd(Math.abs(dx), Math.abs(dy));
        for (int i = 1; i < g; i++) {
            int p = 8 * (ay + dy / g * i) + ax + dx / g * i;
            for (House h : w.houses) if (h.place == p) return false;
        }
        return true;
    }

    static int gcd(int a, int b) {
        return b == 0 ? a : gcd(b, a % b);
    }

    int of(int h, int what) {
        if (!is(h) || what < 0 || what > 13) return -1000000;
        House x = w.houses.get(h);
        int set = 0;
        for (int b = 0; b < n(); b++) {
            boolean in = what == 10 ? w.friends[h][b] : what == 11 ? w.reached(h, b)
                : what == 12 ? envies(h, b, had()) : what == 13 && b != h && sees(h, b);
            if (in) set |= 1 << b;
        }
        int[] plain = {x.place, x.people, x.oil, x.owed, x.had, x.last == null ? NONE : x.last, x.bid, x.says,
            w.turn(h), w.burn(h)};
        return what < 10 ? plain[what] : set;
    }

    int far(int a, int b) {
        if (!is(a) || !is(b)) return NONE;
        Integer f = w.far(a, b, w.snow);
        return f == null ? NONE : f;
    }

    int need(int i, int what) {
        if (i < 0 || i >= w.needs.size() || what < 0 || what > 7) return -2;
        Need n = w.needs.get(i);
        int[] all = {n.kind, n.at, n.from, n.to, n.worth, n.done == null ? NONE : n.done, n.spoilt ? 1 : 0,
            w.open(n) ? 1 : 0};
        return all[what];
    }

    int book(int i, int what) {
        if (i < 0 || i >= w.book.size() || what < 0 || what > 5) return NONE;
        Line l = w.book.get(i);
        int[] all = {l.night, l.house, l.lit, l.oil, l.snow, l.needs};
        return all[what];
    }

    int run(int n, int what) {
        if (n < 1 || n > 99 || what < 0 || what > 3 || n() == 0) return NONE;
        World t = w.copy();
        int dark = 0, set = 0, first = NONE;
        for (int k = 0; k < n; k++) {
            World ahead = t.copy();
            if (!t.pass(true)) dark++;
            for (int i = 0; i < t.needs.size(); i++) {
                if (t.needs.get(i).spoilt && !ahead.needs.get(i).spoilt) {
                    set |= 1 << i;
                    if (first == NONE) first = i;
                }
            }
        }
        return what == 0 ? t.lamp : what == 1 ? dark : what == 2 ? set : first;
    }

    /** Every row of HOUSES in its order; the first that is strictly better stays. */
    private int[] bestRow;
    private int bestWorth, bestWay;

    int plan(int n, int what) {
        if (n < 1 || n > 10 || n() == 0) return NONE;
        if (what != 0 && what != 1 && (what < 10 || what >= 10 + n)) return NONE;
        bestWorth = -1;
        if (Math.pow(n(), n) <= 60000) {
            planFrom(new int[n], 0, 0);
        } else {
            known.clear();
            int[] best = planOn(n, 0, w.lamp, 0);
            bestWorth = best[0];
            bestWay = best[1];
            bestRow = Arrays.copyOfRange(best, 2, 2 + n);
        }
        return what == 0 ? bestWorth : what == 1 ? bestWay : bestRow[what - 10];
    }

    private void planFrom(int[] row, int k, int way) {
        if (k == row.length) {
            int worth = worthOf(row);
            if (worth > bestWorth || (worth == bestWorth && way < bestWay)) {
                bestWorth = worth;
                bestWay = way;
                bestRow = row.clone();
            }
            return;
        }
        int from = k == 0 ? w.lamp : row[k - 1];
        for (int h = 0; h < n(); h++) {
            if (w.reached(from, h)) {
                row[k] = h;
                planFrom(row, k + 1, way + w.far(from, h, w.snow));
            }
        }
    }

    private final Map<List<Integer>, int[]> known = new HashMap<>();

    /** Where there are too many rows: the best worth, way and rest of the row from NIGHT k on. */
    private int[] planOn(int n, int k, int from, int done) {
        if (k == n) return new int[] {0, 0};
        List<Integer> key = List.of(k, from, done);
        if (known.containsKey(key)) return known.get(key);
        int[] best = null;
        for (int h = 0; h < n(); h++) {
            if (!w.reached(from, h)) continue;
            int then = done, worth = 0;
            for (int i = 0; i < w.needs.size(); i++) {
                if ((done >> i & 1) == 0 && servedIn(w.needs.get(i), k, from, h)) {
                    then |= 1 << i;
                    worth += w.needs.get(i).worth;
                }
            }
            int[] rest = planOn(n, k + 1, h, then);
            int way = rest[1] + w.far(from, h, w.snow);
            worth += rest[0];
            if (best == null || worth > best[0] || (worth == best[0] && way < best[1])) {
                best = new int[2 + n - k];
                best[0] = worth;
                best[1] = way;
                best[2] = h;
                System.arraycopy(rest, 2, best, 3, n - k - 1);
            }
        }
        known.put(key, best);
        return best;
    }

    private boolean servedIn(Need need, int k, int from, int h) {
        int night = w.night + k;
        if (need.done != null || need.spoilt || need.at != h || night < need.from || night > need.to) return false;
        Integer last = w.houses.get(h).last;
        boolean ahead = k == 0 ? last != null && last == night - 1 : from == h;
        return need.kind != 3 || ahead;
    }

    private int worthOf(int[] row) {
        int worth = 0;
        for (Need need : w.needs) {
            if (need.done != null || need.spoilt) continue;
            boolean done = false;
            for (int k = 0; k < row.length; k++) {
                int night = w.night + k;
                if (row[k] != need.at || night < need.from || night > need.to) continue;
                Integer last = w.houses.get(row[k]).last;
                boolean ahead = k == 0 ? last != null && last == w.night - 1 : row[k - 1] == row[k];
                if (need.kind != 3 || ahead) done = true;
            }
            if (done) worth += need.worth;
        }
        return worth;
    }

    /** One more where somebody envies, until nobody does. */
    int mend(int house) {
        if (house != NONE && !is(house)) return NONE;
        int[] had = had();
        boolean again = true;
        while (again) {
            again = false;
            for (int a = 0; a < n(); a++) {
                for (int b = 0; b < n(); b++) {
                    while (envies(a, b, had)) {
                        had[a]++;
                        again = true;
                        if (had[a] > w.houses.get(a).had + 9999) return NONE;
                    }
                }
            }
        }
        int sum = 0;
        for (int h = 0; h < n(); h++) sum += had[h] - w.houses.get(h).had;
        return house == NONE ? sum : had[house] - w.houses.get(house).had;
    }

    private int[] bestRooms;
    private int mostPairs;

    int rooms(int what) {
        if (what != 0 && !is(what - 10)) return NONE;
        mostPairs = -1;
        int[] with = new int[n()];
        Arrays.fill(with, -2);
        pair(with, 0, 0);
        return what == 0 ? mostPairs : bestRooms[what - 10];
    }

    private void pair(int[] with, int h, int pairs) {
        if (h == with.length) {
            if (pairs > mostPairs) {
                mostPairs = pairs;
                bestRooms = with.clone();
            }
            return;
        }
        if (with[h] != -2) {
            pair(with, h + 1, pairs);
            return;
        }
        for (int b = h + 1; b < with.length; b++) {
            if (w.friends[h][b] && with[b] == -2) {
                with[h] = b;
                with[b] = h;
                pair(with, h + 1, pairs + 1);
                with[b] = -2;
            }
        }
        with[h] = NONE;
        pair(with, h + 1, pairs);
        with[h] = -2;
    }

    int sale(int what) {
        if (what != 0 && what != 1) return NONE;
        int winner = NONE;
        for (int bid = 99; bid >= 1 && winner == NONE; bid--)
            for (int h = n() - 1; h >= 0; h--) if (w.houses.get(h).bid == bid) winner = h;
        if (what == 0 || winner == NONE) return winner;
        int price = 0;
        for (int h = 0; h < n(); h++) if (h != winner) price = Math.max(price, w.houses.get(h).bid);
        return price;
    }

    int liars() {
        int set = 0;
        for (int h = 0; h < n(); h++) if (w.houses.get(h).says != w.houses.get(h).had) set |= 1 << h;
        return set;
    }

    int sure(int house, int goal, int k) {
        if (!is(house) || !is(goal) || k < 1 || k > 9) return NONE;
        long[] has = new long[10];
        has[w.snow] = 1000000;
        for (int i = 0; i < k && w.flakes > 0; i++) {
            long[] then = new long[10];
            for (int s = 0; s < 10; s++) {
                long up = has[s] * w.flakes / 1000;
                then[s == 9 ? 9 : s + 1] += up;
                then[s == 0 ? 0 : s - 1] += has[s] - up;
            }
            has = then;
        }
        long sum = 0;
        for (int s = 0; s < 10; s++) if (w.reached(house, goal, s)) sum += has[s];
        return (int) sum;
    }

    int best(int goal, int k) {
        if (!is(goal) || k < 1 || k > 9) return NONE;
        int best = NONE;
        for (int h = n() - 1; h >= 0; h--)
            if (w.reached(w.lamp, h) && (best == NONE || sure(h, goal, k) >= sure(best, goal, k))) best = h;
        return best;
    }

    int clue(int night, int set) {
        if (night == NONE) {
            w.clues.clear();
            return 0;
        }
        if (night < 0 || night > 9 || set <= 0 || set >= 1 << n() || w.clues.size() == 8) return NONE;
        w.clues.add(new Clue(night, set));
        return w.clues.size();
    }

    private List<int[]> rows;

    private void allRows(int n) {
        rows = new ArrayList<>();
        rowsFrom(new int[n], 0);
    }

    private void rowsFrom(int[] row, int k) {
        if (k == row.length) {
            rows.add(row.clone());
            return;
        }
        for (int h = 0; h < n(); h++) {
            boolean can = k == 0 || w.reached(row[k - 1], h);
            for (Clue c : w.clues) if (c.night == k && (c.set >> h & 1) == 0) can = false;
            if (can) {
                row[k] = h;
                rowsFrom(row, k + 1);
            }
        }
    }

    long ways(int n) {
        if (n < 1 || n > 10) return NONE;
        allRows(n);
        return rows.size();
    }

    int been(int n, int night) {
        if (n < 1 || n > 10 || night < 0 || night >= n) return NONE;
        allRows(n);
        int set = 0;
        for (int[] row : rows) set |= 1 << row[night];
        return set;
    }

    int ask(int n, int what) {
        if (n < 1 || n > 10 || what < 0 || what > 1) return NONE;
        allRows(n);
        if (rows.isEmpty()) return NONE;
        int bestNight = NONE, bestHouse = NONE, least = Integer.MAX_VALUE;
        for (int night = 0; night < n; night++) {
            for (int h = 0; h < n(); h++) {
                int there = 0;
                for (int[] row : rows) if (row[night] == h) there++;
                int greater = Math.max(there, rows.size() - there);
                if (greater < least) {
                    least = greater;
                    bestNight = night;
                    bestHouse = h;
                }
            }
        }
        return what == 0 ? bestNight : bestHouse;
    }

    /** The LAWS and CLUES are not a NIGHT's: they stay as they are now. */
    boolean undo() {
        if (past.isEmpty()) return false;
        World back = past.removeLast();
        back.turns = w.turns;
        back.burning = w.burning;
        back.clues = w.clues;
        w = back;
        return true;
    }

    boolean image(boolean taken) {
        if (taken) {
            image = w.copy();
            return true;
        }
        if (image == null) return false;
        w = image.copy();
        past.clear();
        return true;
    }

    int look(int what) {
        switch (what) {
            case 0: return n();
            case 1: return w.lamp == null ? NONE : w.lamp;
            case 2: return w.night;
            case 3: return w.book.size();
            case 4: return w.state;
            case 5: return w.needs.size();
            case 6: return w.paths.size();
            case 7: return w.round.size();
            case 8: return w.turns.size();
            case 9: return w.burning.size();
            case 10: return w.clues.size();
            case 11: return past.size();
            case 20: return w.snow;
            case 21: return w.flakes;
            case 22: return w.margin;
            case 23: return w.dusk;
            case 24: return w.due;
            default: return -1000;
        }
    }
}
