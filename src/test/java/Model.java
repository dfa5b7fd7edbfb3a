import java.util.ArrayList;
import java.util.Comparator;
import java.util.List;

/**
 * The document once more, written another way: it keeps what was told and works every answer out anew, by trying all
 * ways where the document asks for the best. FuzzTest holds the class against it.
 */
final class Model {
    private static final long BAD_TOLD = -2000000000000000000L, NO_TOLD = -3000000000000000000L;

    record Act(int who, int sort, int time) { }

    record Fencer(int club, int land, int seed) { }

    record Event(int sort, int who, int time) { }

    record Note(int first, int second, int told, int other) { }

    record Result(int fencer, int week, int points, int known) { }

    record Referee(int club, int land, int hours) { }

    /** How a bout stands: told by its events alone. */
    private static final class Standing {
        int[] touches = new int[2], yellows = new int[2], reds = new int[2];
        int won = -1;
    }

    private static final class Bout {
        int[] who;
        int pool, n, limit, toss, walkover = -1;
        boolean ended, torn;
        List<Event> events = new ArrayList<>();

        Bout copy() {
            Bout b = new Bout();
            b.who = who;
            b.pool = pool;
            b.n = n;
            b.limit = limit;
            b.toss = toss;
            b.walkover = walkover;
            b.ended = ended;
            b.torn = torn;
            b.events = new ArrayList<>(events);
            return b;
        }

        Standing standing() {
            Standing s = new Standing();
            for (Event e : events) {
                if (s.won < 0) {
                    play(s, e);
                }
            }
            if (s.won < 0 && ended) {
                s.won = s.touches[0] > s.touches[1] ? 0 : s.touches[0] < s.touches[1] ? 1 : toss;
            }
            if (walkover >= 0) {
                s.won = walkover;
            }
            return s;
        }

        private void play(Standing s, Event e) {
            boolean late = e.time > limit;
            if (late && s.touches[0] != s.touches[1]) {
                s.won = s.touches[0] > s.touches[1] ? 0 : 1;
                return;
            }
            if (e.time > limit + 1000) {
                s.won = toss;
                return;
            }
            int[] gain = new int[2];
            if (e.sort == 0) {
                gain[e.who] = 1;
            } else if (e.sort == 1) {
                boolean none = late || (s.touches[0] == n - 1 && s.touches[1] == n - 1);
                gain[0] = none ? 0 : 1;
                gain[1] = gain[0];
            } else if (e.sort == 2 && s.yellows[e.who] == 0) {
                s.yellows[e.who] = 1;
            } else if (e.sort <= 3) {
                s.reds[e.who]++;
                gain[1 - e.who] = 1;
            } else {
                s.won = 1 - e.who;
            }
            for (int side = 0; side < 2; side++) {
                s.touches[side] += gain[side];
                if (gain[side] == 1 && (late || s.touches[side] == n)) {
                    s.won = side;
                }
            }
        }

        boolean over() {
            return standing().won >= 0;
        }

        boolean counts() {
            return over() && !torn;
        }
    }

    private static final class State {
        List<Act> acts = new ArrayList<>();
        List<Fencer> fencers = new ArrayList<>();
        List<Bout> bouts = new ArrayList<>();
        List<Integer> pools = new ArrayList<>();
        String[] texts = {"", "", "", ""};
        List<Referee> referees = new ArrayList<>();
        List<Note> notes = new ArrayList<>();
        List<Result> results = new ArrayList<>();
        String[][] pairs = {{"", "", ""}, {"", "", ""}, {"", "", ""}};
        int k = 5;

        State copy() {
            State s = new State();
            s.acts.addAll(acts);
            s.fencers.addAll(fencers);
            for (Bout b : bouts) {
                s.bouts.add(b.copy());
            }
            s.pools.addAll(pools);
            s.texts = texts.clone();
            s.referees.addAll(referees);
            s.notes.addAll(notes);
            s.results.addAll(results);
            s.pairs = new String[][] {pairs[0].clone(), pairs[1].clone(), pairs[2].clone()};
            s.k = k;
            return s;
        }
    }

    private State s = new State();
    private final State[] images = new State[2];

    int phrase() {
        int many = s.acts.size();
        s.acts.clear();
        return many;
    }

    int act(int fencer, int sort, int time) {
        int last = s.acts.isEmpty() ? 0 : s.acts.get(s.acts.size() - 1).time;
        if (fencer < 0 || fencer > 1 || sort < 0 || sort > 4 || time < last || time > 9999) {
            return -2;
        }
        if (s.acts.size() == 20) {
            return -4;
        }
        s.acts.add(new Act(fencer, sort, time));
        return s.acts.size();
    }

    int line(int weapon, int time) {
        return weapon < 0 || weapon > 1 || time < 0 || time > 9999 ? -2 : lineAt(weapon, time);
    }

    private int lineAt(int weapon, int time) {
        int has = -1;
        int[] tookAt = {-1, -1}, mayFrom = {-1, -1};
        List<Integer> shut = new ArrayList<>();
        for (Act a : s.acts) {
            int me = a.who, you = 1 - me;
            if (a.time > time) {
                continue;
            }
            if (a.sort == 0 && tookAt[you] == a.time) {
                has = -1;
                shut.add(a.time);
            } else if (a.sort == 0 && has == -1 && !shut.contains(a.time)) {
                has = me;
                tookAt[me] = a.time;
            } else if (a.sort == 1 && has == you) {
                has = -1;
                mayFrom[me] = a.time;
            } else if (a.sort == 2 && mayFrom[me] >= 0 && a.time <= mayFrom[me] + (weapon == 0 ? 300 : 200)
                    && has == -1) {
                has = me;
                mayFrom[me] = -1;
            } else if (a.sort == 3 && has == me) {
                has = -1;
            }
        }
        return has;
    }

    int touch(int weapon) {
        if (weapon < 0 || weapon > 2) {
            return -2;
        }
        List<Act> lights = new ArrayList<>();
        for (Act a : s.acts) {
            if (a.sort == 4 && lights.stream().noneMatch(l -> l.who == a.who)) {
                lights.add(a);
            }
        }
        if (lights.isEmpty()) {
            return -1;
        }
        int[] within = {300, 170, 40};
        if (lights.size() == 1 || lights.get(1).time - lights.get(0).time > within[weapon]) {
            return lights.get(0).who;
        }
        return weapon == 2 ? 2 : lineAt(weapon, lights.get(0).time);
    }

    private boolean noFencer(int f) {
        return f < 0 || f >= s.fencers.size();
    }

    private boolean noBout(int b) {
        return b < 0 || b >= s.bouts.size();
    }

    private boolean noPool(int p) {
        return p < 0 || p >= s.pools.size();
    }

    private boolean noReferee(int r) {
        return r < 0 || r >= s.referees.size();
    }

    private boolean notIn(int pool, int f) {
        return noPool(pool) || noFencer(f) || (s.pools.get(pool) & 1 << f) == 0;
    }

    int fencer(int club, int land, int seed) {
        if (club < 0 || club > 9 || land < 0 || land > 5 || seed < 1 || seed > 999) {
            return -2;
        }
        if (s.fencers.size() == 16) {
            return -4;
        }
        s.fencers.add(new Fencer(club, land, seed));
        return s.fencers.size() - 1;
    }

    int seed(int fencer, int v) {
        if (noFencer(fencer) || v < 1 || v > 999) {
            return -2;
        }
        Fencer f = s.fencers.get(fencer);
        s.fencers.set(fencer, new Fencer(f.club, f.land, v));
        return f.seed;
    }

    int bout(int a, int b, int pool, int n, int limit, int toss) {
        if (noFencer(a) || noFencer(b) || a == b || n < 1 || n > 15 || limit < 1 || limit > 9999 || toss < 0
                || toss > 1 || (pool != -1 && (notIn(pool, a) || notIn(pool, b)))) {
            return -2;
        }
        if (s.bouts.size() == 120) {
            return -4;
        }
        Bout x = new Bout();
        x.who = new int[] {a, b};
        x.pool = pool;
        x.n = n;
        x.limit = limit;
        x.toss = toss;
        s.bouts.add(x);
        return s.bouts.size() - 1;
    }

    int event(int bout, int sort, int who, int time) {
        if (noBout(bout) || sort < 0 || sort > 5 || time < 0 || time > 99999
                || (sort != 1 && (who < 0 || who > 1))) {
            return -2;
        }
        Bout b = s.bouts.get(bout);
        if (!b.events.isEmpty() && time < b.events.get(b.events.size() - 1).time) {
            return -2;
        }
        if (b.over()) {
            return -3;
        }
        if (b.events.size() == 40) {
            return -4;
        }
        b.events.add(new Event(sort, who, time));
        return b.over() ? 2 : 1;
    }

    int end(int bout) {
        if (noBout(bout)) {
            return -2;
        }
        Bout b = s.bouts.get(bout);
        if (b.over()) {
            return -3;
        }
        b.ended = true;
        return b.standing().won;
    }

    int walkover(int bout, int who) {
        if (noBout(bout) || who < 0 || who > 1) {
            return -2;
        }
        Bout b = s.bouts.get(bout);
        if (b.over() || !b.events.isEmpty()) {
            return -3;
        }
        b.walkover = who;
        return 1;
    }

    int tear(int bout, boolean is) {
        if (noBout(bout)) {
            return -2;
        }
        Bout b = s.bouts.get(bout);
        if (b.torn == is) {
            return -3;
        }
        b.torn = is;
        return 1;
    }

    int about(int bout, int what) {
        if (noBout(bout) || what < 0 || what > 9) {
            return -2;
        }
        Bout b = s.bouts.get(bout);
        Standing t = b.standing();
        int[] all = {t.touches[0], t.touches[1], t.won >= 0 ? 1 : 0, t.won, t.yellows[0], t.yellows[1], t.reds[0],
            t.reds[1], b.torn ? 1 : 0, b.events.size()};
        return all[what];
    }

    private boolean noSet(int bits, int least, int most) {
        return bits < 0 || bits >= 1 << s.fencers.size() || Integer.bitCount(bits) < least
                || Integer.bitCount(bits) > most;
    }

    int pool(int fencers) {
        if (noSet(fencers, 2, 7)) {
            return -2;
        }
        if (s.pools.size() == 6) {
            return -4;
        }
        s.pools.add(fencers);
        return s.pools.size() - 1;
    }

    /** wins, given less received, given, bouts, seed, yellows, reds. */
    private int[] values(int pool, int fencer) {
        int wins = 0, bouts = 0, given = 0, received = 0, yellows = 0, reds = 0;
        for (Bout b : s.bouts) {
            for (int side = 0; side < 2; side++) {
                if (b.pool == pool && b.who[side] == fencer && b.counts()) {
                    Standing t = b.standing();
                    wins += t.won == side ? 1 : 0;
                    bouts++;
                    given += t.touches[side];
                    received += t.touches[1 - side];
                    yellows += t.yellows[side];
                    reds += t.reds[side];
                }
            }
        }
        int part = bouts == 0 ? 0 : wins * 1000 / bouts;
        return new int[] {part, given - received, given, bouts, s.fencers.get(fencer).seed, yellows, reds};
    }

    int indicator(int pool, int fencer, int what) {
        return notIn(pool, fencer) || what < 0 || what > 3 ? -100000 : values(pool, fencer)[what];
    }

    private static List<Integer> members(int bits) {
        List<Integer> all = new ArrayList<>();
        for (int f = 0; f < 31; f++) {
            if ((bits >> f & 1) == 1) {
                all.add(f);
            }
        }
        return all;
    }

    private List<Integer> ordered(int pool) {
        List<Integer> all = members(s.pools.get(pool));
        int[][] v = new int[16][];
        for (int f : all) {
            v[f] = values(pool, f);
        }
        all.sort(Comparator.<Integer>comparingInt(f -> -v[f][0]).thenComparingInt(f -> -v[f][1])
                .thenComparingInt(f -> -v[f][2]).thenComparingInt(f -> v[f][4]).thenComparingInt(f -> f));
        return all;
    }

    int order(int pool, int i) {
        if (noPool(pool) || i < 0) {
            return -2;
        }
        List<Integer> all = ordered(pool);
        return i < all.size() ? all.get(i) : -1;
    }

    int write(int text, int character) {
        if (text < 0 || text > 3 || character < 0 || character > 127) {
            return -2;
        }
        if (s.texts[text].length() == 50) {
            return -4;
        }
        s.texts[text] += (char) character;
        return s.texts[text].length();
    }

    int erase(int text) {
        if (text < 0 || text > 3) {
            return -2;
        }
        int many = s.texts[text].length();
        s.texts[text] = "";
        return many;
    }

    private static final class Fault extends RuntimeException {
        private static final long serialVersionUID = 1L;
        final int number;

        Fault(int number) {
            this.number = number;
        }
    }

    /** By descent, one method for each kind of the grammar. */
    private static final class Reader {
        final String text;
        final int[] values;
        int at;

        Reader(String text, int[] values) {
            this.text = text;
            this.values = values;
        }

        long whole() {
            long v = sum(0);
            if (peek() != -1) {
                throw new Fault(10 * at + 1);
            }
            return v;
        }

        int peek() {
            while (at < text.length() && text.charAt(at) == ' ') {
                at++;
            }
            return at < text.length() ? text.charAt(at) : -1;
        }

        long sum(int open) {
            long v = term(open);
            while (peek() == '+' || peek() == '-') {
                boolean plus = text.charAt(at++) == '+';
                long t = term(open);
                v = plus ? v + t : v - t;
            }
            return v;
        }

        long term(int open) {
            long v = unit(open);
            while (peek() == '*' || peek() == '/') {
                boolean times = text.charAt(at++) == '*';
                long u = unit(open);
                v = times ? v * u : u == 0 ? 0 : v / u;
            }
            return v;
        }

        long unit(int open) {
            int c = peek();
            if (c == '-') {
                at++;
                return -unit(open);
            }
            if (c == '(') {
                if (open == 8) {
                    throw new Fault(10 * at + 3);
                }
                at++;
                long v = sum(open + 1);
                if (peek() != ')') {
                    throw new Fault(10 * at + 1);
                }
                at++;
                return v;
            }
            if (c >= '0' && c <= '9') {
                int from = at;
                while (at < text.length() && text.charAt(at) >= '0' && text.charAt(at) <= '9') {
                    at++;
                }
                if (at - from > 6) {
                    throw new Fault(10 * from + 2);
                }
                return Long.parseLong(text.substring(from, at));
            }
            int letter = c < 0 ? -1 : "wdgbsyr".indexOf(c);
            if (letter < 0) {
                throw new Fault(10 * at + 1);
            }
            at++;
            return values[letter];
        }
    }

    int fault(int text) {
        if (text < 0 || text > 3) {
            return -2;
        }
        try {
            new Reader(s.texts[text], new int[7]).whole();
            return -1;
        } catch (Fault f) {
            return f.number;
        }
    }

    private long told(int text, int pool, int fencer) {
        return new Reader(s.texts[text], values(pool, fencer)).whole();
    }

    long tells(int text, int pool, int fencer) {
        if (text < 0 || text > 3 || notIn(pool, fencer)) {
            return BAD_TOLD;
        }
        return fault(text) != -1 ? NO_TOLD : told(text, pool, fencer);
    }

    int beside(int text, int pool, int i) {
        if (text < 0 || text > 3 || noPool(pool) || i < 0) {
            return -2;
        }
        if (fault(text) != -1) {
            return -3;
        }
        List<Integer> all = ordered(pool);
        all.sort((x, y) -> Long.compare(told(text, pool, y), told(text, pool, x)));
        return i < all.size() ? all.get(i) : -1;
    }

    int hangs(int bout) {
        if (noBout(bout)) {
            return -2;
        }
        Bout b = s.bouts.get(bout);
        if (b.pool == -1) {
            return -3;
        }
        List<Integer> with = ordered(b.pool);
        boolean was = b.torn;
        b.torn = true;
        List<Integer> without = ordered(b.pool);
        b.torn = was;
        int bits = 0;
        for (int f : with) {
            bits |= with.indexOf(f) != without.indexOf(f) ? 1 << f : 0;
        }
        return bits;
    }

    private List<Integer> seeded(int bits) {
        List<Integer> all = members(bits);
        all.sort(Comparator.<Integer>comparingInt(f -> s.fencers.get(f).seed).thenComparingInt(f -> f));
        return all;
    }

    private static List<Integer> table(int size) {
        if (size == 2) {
            return List.of(0, 1);
        }
        List<Integer> half = table(size / 2), whole = new ArrayList<>();
        for (int k = 0; k < half.size(); k++) {
            int r = half.get(k), other = size - 1 - r;
            whole.add(k % 2 == 0 ? r : other);
            whole.add(k % 2 == 0 ? other : r);
        }
        return whole;
    }

    private int stands(List<Integer> table, List<Integer> seeded, int r, int i) {
        if (r == 0) {
            return table.get(i) < seeded.size() ? seeded.get(table.get(i)) : -1;
        }
        int a = stands(table, seeded, r - 1, 2 * i), b = stands(table, seeded, r - 1, 2 * i + 1);
        if (a == -5 || b == -5) {
            return -5;
        }
        if (a == -1 || b == -1) {
            return a + b + 1;
        }
        int winner = -5;
        for (Bout x : s.bouts) {
            boolean both = x.who[0] + x.who[1] == a + b && (x.who[0] == a || x.who[1] == a);
            if (both && x.counts() && x.pool == -1) {
                winner = x.who[x.standing().won];
            }
        }
        return winner;
    }

    int ladder(int fencers, int r, int i) {
        if (noSet(fencers, 2, 16)) {
            return -2;
        }
        int size = 2;
        while (size < Integer.bitCount(fencers)) {
            size *= 2;
        }
        if (r < 0 || r > 4 || size >> r == 0 || i < 0 || i >= size >> r) {
            return -2;
        }
        return stands(table(size), seeded(fencers), r, i);
    }

    private int cost(List<Integer> order, int[] way) {
        int sum = 0;
        for (int i = 0; i < way.length; i++) {
            for (int j = i + 1; j < way.length; j++) {
                Fencer x = s.fencers.get(order.get(i)), y = s.fencers.get(order.get(j));
                sum += way[i] != way[j] ? 0 : x.club == y.club ? 3 : x.land == y.land ? 1 : 0;
            }
        }
        return sum;
    }

    private int[] bestWay;
    private int bestCost;

    private void ways(List<Integer> order, int p, int[] way, int at) {
        if (at == way.length) {
            int c = cost(order, way);
            if (bestWay == null || c < bestCost) {
                bestWay = way.clone();
                bestCost = c;
            }
            return;
        }
        for (int pool = 0; pool < p; pool++) {
            boolean free = true;
            for (int j = at / p * p; j < at; j++) {
                free &= way[j] != pool;
            }
            if (free) {
                way[at] = pool;
                ways(order, p, way, at + 1);
            }
        }
    }

    int apart(int fencers, int p, int what) {
        if (noSet(fencers, 2, 12) || p < 1 || p > 3
                || (what != -1 && (noFencer(what) || (fencers & 1 << what) == 0))) {
            return -2;
        }
        List<Integer> order = seeded(fencers);
        bestWay = null;
        ways(order, p, new int[order.size()], 0);
        return what == -1 ? bestCost : bestWay[order.indexOf(what)];
    }

    int referee(int club, int land) {
        if (club < 0 || club > 9 || land < 0 || land > 5) {
            return -2;
        }
        if (s.referees.size() == 8) {
            return -4;
        }
        s.referees.add(new Referee(club, land, 0));
        return s.referees.size() - 1;
    }

    private boolean noHour(int bits) {
        if (bits < 0 || bits >= 1 << 30 || Integer.bitCount(bits) > 8) {
            return true;
        }
        for (int b : members(bits)) {
            if (noBout(b)) {
                return true;
            }
        }
        return false;
    }

    private boolean kin(int r, Bout b) {
        Referee x = s.referees.get(r);
        for (int f : b.who) {
            if (s.fencers.get(f).club == x.club || s.fencers.get(f).land == x.land) {
                return true;
            }
        }
        return false;
    }

    private void services(List<Integer> bouts, int[] way, int at) {
        if (at == way.length) {
            int sum = 0;
            for (int r : way) {
                sum += s.referees.get(r).hours;
            }
            if (bestWay == null || sum < bestCost) {
                bestWay = way.clone();
                bestCost = sum;
            }
            return;
        }
        for (int r = 0; r < s.referees.size(); r++) {
            boolean free = !kin(r, s.bouts.get(bouts.get(at)));
            for (int j = 0; j < at; j++) {
                free &= way[j] != r;
            }
            if (free) {
                way[at] = r;
                services(bouts, way, at + 1);
            }
        }
    }

    private int[] served(int bits) {
        List<Integer> bouts = members(bits);
        bestWay = null;
        services(bouts, new int[bouts.size()], 0);
        return bestWay;
    }

    int service(int bouts, int bout) {
        if (noHour(bouts) || !members(bouts).contains(bout)) {
            return -2;
        }
        int[] way = served(bouts);
        return way == null ? -1 : way[members(bouts).indexOf(bout)];
    }

    int serve(int bouts) {
        if (noHour(bouts)) {
            return -2;
        }
        int[] way = served(bouts);
        if (way == null) {
            return -1;
        }
        for (int r : way) {
            Referee x = s.referees.get(r);
            s.referees.set(r, new Referee(x.club, x.land, x.hours + 1));
        }
        return way.length;
    }

    int hours(int referee) {
        return noReferee(referee) ? -2 : s.referees.get(referee).hours;
    }

    int pair(int a, int b, int many, int bits) {
        if (a < 0 || a > 2 || b < 0 || b > 2 || many < 0 || many > 15 || bits < 0 || bits >> many != 0) {
            return -2;
        }
        StringBuilder row = new StringBuilder();
        for (int i = 0; i < many; i++) {
            row.append((bits & 1 << i) != 0 ? 's' : 'f');
        }
        s.pairs[a][b] = row.toString();
        return 1;
    }

    private int[] relayed(String order) {
        String turns = "220110210012021120";
        int[] scores = new int[18];
        int first = 0, second = 0;
        for (int t = 0; t < 9; t++) {
            int fencer = order.charAt(turns.charAt(2 * t) - '0') - '0';
            for (char c : s.pairs[fencer][turns.charAt(2 * t + 1) - '0'].toCharArray()) {
                if (Math.max(first, second) == 5 * (t + 1)) {
                    break;
                }
                first += c == 'f' ? 1 : 0;
                second += c == 's' ? 1 : 0;
            }
            scores[2 * t] = first;
            scores[2 * t + 1] = second;
        }
        return scores;
    }

    int relay(int order, int what) {
        String digits = order < 0 || order > 999 ? "" : String.format("%03d", order);
        if (!List.of("012", "021", "102", "120", "201", "210").contains(digits) || what < -1 || what > 17) {
            return -1000;
        }
        int[] scores = relayed(digits);
        return what == -1 ? scores[16] - scores[17] : scores[what];
    }

    int bestOrder() {
        int best = -1;
        for (int order = 0; order < 1000; order++) {
            int margin = relay(order, -1);
            if (margin != -1000 && (best == -1 || margin > relay(best, -1))) {
                best = order;
            }
        }
        return best;
    }

    int judged(int first, int second, int told, int other) {
        if (noReferee(first) || noReferee(second) || first == second || told < -1 || told > 1 || other < -1
                || other > 1) {
            return -2;
        }
        if (s.notes.size() == 60) {
            return -4;
        }
        s.notes.add(new Note(first, second, told, other));
        return s.notes.size();
    }

    int habit(int referee, int what) {
        if (noReferee(referee) || what < 0 || what > 3) {
            return -10;
        }
        int n = 0, q = 0, p = 0;
        for (Note x : s.notes) {
            if (x.told != x.other && (x.first == referee || x.second == referee)) {
                int mine = x.first == referee ? x.told : x.other, its = x.first == referee ? x.other : x.told;
                n++;
                q += mine == 0 ? 1 : 0;
                p += its == 0 ? 1 : 0;
            }
        }
        boolean rare = Math.max(q, p) > 0 && tail(q + p, Math.max(q, p)) <= 0.05;
        return what == 0 ? n : what == 1 ? q : what == 2 ? p : !rare || q == p ? 0 : q > p ? 1 : -1;
    }

    /** No tail is near enough to 1 by 20 for a double to miss it. */
    private static double tail(int all, int many) {
        double[] chance = new double[all + 1];
        chance[0] = 1;
        for (int i = 1; i <= all; i++) {
            for (int k = i; k >= 0; k--) {
                chance[k] = (chance[k] + (k > 0 ? chance[k - 1] : 0)) / 2;
            }
        }
        double sum = 0;
        for (int k = many; k <= all; k++) {
            sum += chance[k];
        }
        return sum;
    }

    int result(int fencer, int week, int points, int known) {
        if (noFencer(fencer) || week < 0 || week > 999 || points < 0 || points > 1000 || known < week || known > 999) {
            return -2;
        }
        if (s.results.size() == 60) {
            return -4;
        }
        s.results.add(new Result(fencer, week, points, known));
        return s.results.size();
    }

    int counted(int k) {
        if (k < 1 || k > 10) {
            return -2;
        }
        int was = s.k;
        s.k = k;
        return was;
    }

    private int sum(int fencer, int week, int known) {
        return s.results.stream()
                .filter(r -> r.fencer == fencer && r.known <= known && r.week <= week && week - r.week < 52)
                .map(r -> -r.points).sorted().limit(s.k).mapToInt(points -> -points).sum();
    }

    int ranking(int fencer, int week, int known, int what) {
        if (noFencer(fencer) || week < 0 || week > 999 || known < 0 || known > 999 || what < 0 || what > 1) {
            return -2;
        }
        int own = sum(fencer, week, known), rank = 1;
        for (int f = 0; f < s.fencers.size(); f++) {
            rank += sum(f, week, known) > own ? 1 : 0;
        }
        return what == 0 ? own : rank;
    }

    int image(int i) {
        if (i < 0 || i > 1) {
            return -2;
        }
        images[i] = s.copy();
        return 1;
    }

    int from(int i) {
        if (i < 0 || i > 1) {
            return -2;
        }
        if (images[i] == null) {
            return -3;
        }
        s = images[i].copy();
        return 1;
    }

    int count(int what) {
        if (what < 0 || what > 7) {
            return -2;
        }
        int[] all = {s.acts.size(), s.fencers.size(), s.bouts.size(), (int) s.bouts.stream().filter(Bout::counts).count(),
            s.pools.size(), s.referees.size(), s.notes.size(), s.results.size()};
        return all[what];
    }

    long digest() {
        List<Integer> v = new ArrayList<>();
        for (int what = 0; what < 8; what++) {
            v.add(count(what));
        }
        s.acts.forEach(a -> v.addAll(List.of(a.who, a.sort, a.time)));
        s.fencers.forEach(f -> v.addAll(List.of(f.club, f.land, f.seed)));
        for (int i = 0; i < s.bouts.size(); i++) {
            Bout b = s.bouts.get(i);
            v.addAll(List.of(b.who[0], b.who[1], b.pool, b.n, b.limit, b.toss));
            for (int what = 0; what < 10; what++) {
                v.add(about(i, what));
            }
        }
        v.addAll(s.pools);
        for (String text : s.texts) {
            v.add(text.length());
            text.chars().forEach(v::add);
        }
        s.referees.forEach(r -> v.addAll(List.of(r.club, r.land, r.hours)));
        s.results.forEach(r -> v.addAll(List.of(r.fencer, r.week, r.points, r.known)));
        v.add(s.k);
        long h = 293;
        for (int x : v) {
            h = 31 * h + x;
        }
        return h;
    }
}
