/** Touches: a fencing league. README.md says how to use it; the promises stand in the project's document. */
public final class TouchLeague {
    public static final int NONE = -1, BAD = -2, NO = -3, FULL = -4;

    private static final int BAD_INDICATOR = -100000;
    private static final int BAD_RELAY = -1000;
    private static final int BAD_HABIT = -10;
    private static final long BAD_TOLD = -2000000000000000000L;
    private static final long NO_TOLD = -3000000000000000000L;

    private final League league;
    private final League[] images;
    private final Phrases phrases;
    private final Bouts bouts;
    private final Pools pools;
    private final Formula formula;
    private final Ladders ladders;
    private final Apart draw;
    private final Referees referees;
    private final Relays relays;
    private final Rankings rankings;

    public TouchLeague() {
        league = new League();
        images = new League[2];
        phrases = new Phrases(league.acts);
        bouts = new Bouts(league.bouts);
        formula = new Formula(league.texts);
        pools = new Pools(league, bouts, formula);
        ladders = new Ladders(league, bouts);
        draw = new Apart(league);
        referees = new Referees(league);
        relays = new Relays(league.pairs);
        rankings = new Rankings(league);
    }

    // ---- phrases

    public int phrase() {
        int many = league.acts.rows;
        league.acts.rows = 0;
        return many;
    }

    public int act(int fencer, int sort, int time) {
        if (!isSide(fencer) || !within(sort, Phrases.ATTACK, Phrases.LIGHT)
                || !within(time, phrases.lastTime(), Phrases.LAST_TIME)) {
            return BAD;
        }
        if (league.acts.isFull()) {
            return FULL;
        }
        int row = league.acts.add();
        league.acts.set(row, Phrases.WHO, fencer);
        league.acts.set(row, Phrases.SORT, sort);
        league.acts.set(row, Phrases.TIME, time);
        return league.acts.rows;
    }

    public int line(int weapon, int time) {
        if (!within(weapon, Phrases.FOIL, Phrases.SABRE) || !within(time, 0, Phrases.LAST_TIME)) {
            return BAD;
        }
        return phrases.holderAt(weapon, time);
    }

    public int touch(int weapon) {
        return within(weapon, Phrases.FOIL, Phrases.EPEE) ? phrases.touchBy(weapon) : BAD;
    }

    // ---- fencers, bouts

    public int fencer(int club, int land, int seed) {
        if (!isHome(club, land) || !isSeed(seed)) {
            return BAD;
        }
        if (league.fencers.isFull()) {
            return FULL;
        }
        int row = league.fencers.add();
        league.fencers.set(row, League.CLUB, club);
        league.fencers.set(row, League.LAND, land);
        league.fencers.set(row, League.SEED, seed);
        return row;
    }

    public int seed(int fencer, int v) {
        if (!league.fencers.has(fencer) || !isSeed(v)) {
            return BAD;
        }
        int was = league.fencers.get(fencer, League.SEED);
        league.fencers.set(fencer, League.SEED, v);
        return was;
    }

    public int bout(int a, int b, int pool, int n, int limit, int toss) {
        if (!league.fencers.has(a) || !league.fencers.has(b) || a == b
                || !within(n, 1, 15) || !within(limit, 1, 9999) || !isSide(toss)) {
            return BAD;
        }
        if (pool != NONE && (!league.isInPool(pool, a) || !league.isInPool(pool, b))) {
            return BAD;
        }
        if (league.bouts.isFull()) {
            return FULL;
        }
        int row = league.bouts.add();
        league.bouts.set(row, Bouts.FENCERS, a);
        league.bouts.set(row, Bouts.FENCERS + 1, b);
        league.bouts.set(row, Bouts.POOL, pool);
        league.bouts.set(row, Bouts.ENOUGH, n);
        league.bouts.set(row, Bouts.LIMIT, limit);
        league.bouts.set(row, Bouts.TOSS, toss);
        league.bouts.set(row, Bouts.WON, NONE);
        return row;
    }

    public int event(int bout, int sort, int who, int time) {
        if (!league.bouts.has(bout) || !within(sort, Bouts.TOUCH, Bouts.HURT)
                || (sort != Bouts.BOTH && !isSide(who))
                || !within(time, league.bouts.get(bout, Bouts.LAST), Bouts.LAST_TIME)) {
            return BAD;
        }
        if (bouts.isOver(bout)) {
            return NO;
        }
        if (league.bouts.get(bout, Bouts.EVENTS) >= Bouts.MOST_EVENTS) {
            return FULL;
        }
        bouts.take(bout, sort, who, time);
        return bouts.isOver(bout) ? 2 : 1;
    }

    public int end(int bout) {
        if (!league.bouts.has(bout)) {
            return BAD;
        }
        return bouts.isOver(bout) ? NO : bouts.close(bout);
    }

    public int walkover(int bout, int who) {
        if (!league.bouts.has(bout) || !isSide(who)) {
            return BAD;
        }
        if (bouts.isOver(bout) || league.bouts.get(bout, Bouts.EVENTS) > 0) {
            return NO;
        }
        bouts.win(bout, who);
        return 1;
    }

    public int tear(int bout, boolean is) {
        if (!league.bouts.has(bout)) {
            return BAD;
        }
        if (bouts.isVoid(bout) == is) {
            return NO;
        }
        league.bouts.set(bout, Bouts.VOID, is ? 1 : 0);
        return 1;
    }

    public int about(int bout, int what) {
        if (!league.bouts.has(bout) || !within(what, 0, 9)) {
            return BAD;
        }
        return league.bouts.get(bout, Bouts.ABOUT + what);
    }

    // ---- pools, texts

    public int pool(int fencers) {
        if (!league.isSet(fencers, 2, Pools.MOST_FENCERS)) {
            return BAD;
        }
        if (league.pools.isFull()) {
            return FULL;
        }
        int row = league.pools.add();
        league.pools.set(row, 0, fencers);
        return row;
    }

    public int indicator(int pool, int fencer, int what) {
        if (!league.isInPool(pool, fencer) || !within(what, Pools.WINS, Pools.FOUGHT)) {
            return BAD_INDICATOR;
        }
        return pools.indicatorOf(pool, fencer, what);
    }

    public int order(int pool, int i) {
        if (!league.pools.has(pool) || i < 0) {
            return BAD;
        }
        return pools.placed(pool, i);
    }

    public int write(int text, int character) {
        if (!league.texts.has(text) || !within(character, 0, 127)) {
            return BAD;
        }
        int many = league.texts.get(text, Formula.LENGTH);
        if (many >= Formula.MOST_CHARACTERS) {
            return FULL;
        }
        league.texts.set(text, Formula.CHARACTERS + many, character);
        league.texts.set(text, Formula.LENGTH, many + 1);
        return many + 1;
    }

    public int erase(int text) {
        if (!league.texts.has(text)) {
            return BAD;
        }
        int many = league.texts.get(text, Formula.LENGTH);
        league.texts.set(text, Formula.LENGTH, 0);
        return many;
    }

    public int fault(int text) {
        return league.texts.has(text) ? formula.read(text) : BAD;
    }

    public long tells(int text, int pool, int fencer) {
        if (!league.texts.has(text) || !league.isInPool(pool, fencer)) {
            return BAD_TOLD;
        }
        if (formula.read(text) != NONE) {
            return NO_TOLD;
        }
        return pools.toldOf(text, pool, fencer);
    }

    public int beside(int text, int pool, int i) {
        if (!league.texts.has(text) || !league.pools.has(pool) || i < 0) {
            return BAD;
        }
        if (formula.read(text) != NONE) {
            return NO;
        }
        return pools.placedBeside(text, pool, i);
    }

    public int hangs(int bout) {
        if (!league.bouts.has(bout)) {
            return BAD;
        }
        int pool = league.bouts.get(bout, Bouts.POOL);
        return pool == NONE ? NO : pools.hangingOn(pool, bout);
    }

    // ---- ladders, pools apart, referees

    public int ladder(int fencers, int r, int i) {
        if (!league.isSet(fencers, 2, Ladders.MOST_FENCERS)) {
            return BAD;
        }
        int places = ladders.placesIn(fencers, r);
        return within(i, 0, places - 1) ? ladders.standsAt(fencers, r, i) : BAD;
    }

    public int apart(int fencers, int p, int what) {
        if (!league.isSet(fencers, 2, Apart.MOST_FENCERS) || !within(p, 1, Apart.MOST_POOLS)
                || (what != NONE && !league.isMember(fencers, what))) {
            return BAD;
        }
        draw.make(fencers, p);
        return what == NONE ? draw.clashes() : draw.poolOf(what);
    }

    public int referee(int club, int land) {
        if (!isHome(club, land)) {
            return BAD;
        }
        if (league.referees.isFull()) {
            return FULL;
        }
        int row = league.referees.add();
        league.referees.set(row, League.CLUB, club);
        league.referees.set(row, League.LAND, land);
        return row;
    }

    public int service(int bouts, int bout) {
        if (!referees.isOneHour(bouts) || !within(bout, 0, Referees.LAST_BOUT)
                || ((bouts >> bout) & 1) == 0) {
            return BAD;
        }
        return referees.assign(bouts) ? referees.servingAt(bout) : NONE;
    }

    public int serve(int bouts) {
        if (!referees.isOneHour(bouts)) {
            return BAD;
        }
        return referees.assign(bouts) ? referees.workTheHour() : NONE;
    }

    public int hours(int referee) {
        return league.referees.has(referee) ? league.referees.get(referee, League.HOURS) : BAD;
    }

    // ---- relays, habits, rankings

    public int pair(int a, int b, int many, int bits) {
        if (!within(a, 0, Relays.TEAM - 1) || !within(b, 0, Relays.TEAM - 1)
                || !within(many, 0, Relays.MOST_TOUCHES) || !within(bits, 0, (1 << many) - 1)) {
            return BAD;
        }
        int row = a * Relays.TEAM + b;
        league.pairs.set(row, Relays.MANY, many);
        league.pairs.set(row, Relays.BITS, bits);
        return 1;
    }

    public int relay(int order, int what) {
        if (!relays.isOrder(order) || !within(what, NONE, 2 * Relays.TURNS - 1)) {
            return BAD_RELAY;
        }
        int margin = relays.marginOf(order);
        return what == NONE ? margin : relays.touchesBehind(what);
    }

    public int bestOrder() {
        return relays.orderOfMostGain();
    }

    public int judged(int first, int second, int told, int other) {
        if (!league.referees.has(first) || !league.referees.has(second) || first == second
                || !within(told, NONE, 1) || !within(other, NONE, 1)) {
            return BAD;
        }
        if (league.notes.isFull()) {
            return FULL;
        }
        int row = league.notes.add();
        league.notes.set(row, Referees.JUDGES, first);
        league.notes.set(row, Referees.JUDGES + 1, second);
        league.notes.set(row, Referees.TOLD, told);
        league.notes.set(row, Referees.TOLD + 1, other);
        return league.notes.rows;
    }

    public int habit(int referee, int what) {
        if (!league.referees.has(referee) || !within(what, 0, 3)) {
            return BAD_HABIT;
        }
        return referees.leaning(referee, what);
    }

    public int result(int fencer, int week, int points, int known) {
        if (!league.fencers.has(fencer) || !isWeek(week) || !within(points, 0, 1000)
                || !isWeek(known) || known < week) {
            return BAD;
        }
        if (league.results.isFull()) {
            return FULL;
        }
        int row = league.results.add();
        league.results.set(row, Rankings.FENCER, fencer);
        league.results.set(row, Rankings.WEEK, week);
        league.results.set(row, Rankings.POINTS, points);
        league.results.set(row, Rankings.KNOWN, known);
        return league.results.rows;
    }

    public int counted(int k) {
        if (!within(k, 1, Rankings.MOST_COUNTED)) {
            return BAD;
        }
        int was = league.bestCounted;
        league.bestCounted = k;
        return was;
    }

    public int ranking(int fencer, int week, int known, int what) {
        if (!league.fencers.has(fencer) || !isWeek(week) || !isWeek(known) || !within(what, 0, 1)) {
            return BAD;
        }
        return what == 0 ? rankings.sumOf(fencer, week, known) : rankings.rankOf(fencer, week, known);
    }

    // ---- images

    public int image(int i) {
        if (!within(i, 0, images.length - 1)) {
            return BAD;
        }
        League kept = images[i];
        if (kept == null) {
            kept = new League();
            images[i] = kept;
        }
        kept.copyFrom(league);
        return 1;
    }

    public int from(int i) {
        if (!within(i, 0, images.length - 1)) {
            return BAD;
        }
        League kept = images[i];
        if (kept == null) {
            return NO;
        }
        league.copyFrom(kept);
        return 1;
    }

    public int count(int what) {
        switch (what) {
            case 0: return league.acts.rows;
            case 1: return league.fencers.rows;
            case 2: return league.bouts.rows;
            case 3: return bouts.standing();
            case 4: return league.pools.rows;
            case 5: return league.referees.rows;
            case 6: return league.notes.rows;
            case 7: return league.results.rows;
            default: return BAD;
        }
    }

    public long digest() {
        long h = 293;
        for (int what = 0; what <= 7; what++) {
            h = 31 * h + count(what);
        }
        h = league.acts.mixedInto(h, Phrases.WIDTH);
        h = league.fencers.mixedInto(h, League.FENCER_WIDTH);
        h = league.bouts.mixedInto(h, Bouts.DIGESTED);
        h = league.pools.mixedInto(h, 1);
        h = formula.mixedInto(h);
        h = league.referees.mixedInto(h, League.REFEREE_WIDTH);
        h = league.results.mixedInto(h, Rankings.WIDTH);
        return 31 * h + league.bestCounted;
    }

    private static boolean within(int value, int least, int most) {
        return value >= least && value <= most;
    }

    private static boolean isSide(int who) {
        return within(who, 0, 1);
    }

    private static boolean isHome(int club, int land) {
        return within(club, 0, 9) && within(land, 0, 5);
    }

    private static boolean isSeed(int seed) {
        return within(seed, 1, 999);
    }

    private static boolean isWeek(int week) {
        return within(week, 0, 999);
    }

    /** Rows of numbers, made once and used again, since a run has room for few objects. */
    private static final class Table {
        final int capacity, width;
        final int[] cells;
        int rows;

        Table(int capacity, int width) {
            this.capacity = Math.max(0, capacity);
            this.width = Math.max(0, width);
            this.cells = new int[this.capacity * this.width];
            this.rows = 0;
        }

        boolean has(int row) {
            return row >= 0 && row < rows;
        }

        boolean isFull() {
            return rows >= capacity;
        }

        int get(int row, int column) {
            boolean held = row >= 0 && row < capacity && column >= 0 && column < width;
            return held ? cells[row * width + column] : 0;
        }

        void set(int row, int column, int value) {
            if (row >= 0 && row < capacity && column >= 0 && column < width) {
                cells[row * width + column] = value;
            }
        }

        void raise(int row, int column, int by) {
            set(row, column, get(row, column) + by);
        }

        /** A new row of zeros: what an earlier use left there must not be seen. */
        int add() {
            if (isFull()) {
                return NONE;
            }
            int row = rows;
            rows++;
            for (int column = 0; column < width; column++) {
                set(row, column, 0);
            }
            return row;
        }

        void addAll() {
            for (int row = 0; row < capacity; row++) {
                add();
            }
        }

        void copyFrom(Table other) {
            System.arraycopy(other.cells, 0, cells, 0, Math.min(cells.length, other.cells.length));
            rows = Math.min(other.rows, capacity);
        }

        long mixedInto(long h, int columns) {
            for (int row = 0; row < rows; row++) {
                for (int column = 0; column < columns; column++) {
                    h = 31 * h + get(row, column);
                }
            }
            return h;
        }
    }

    /** All that is told, so that an image is one copy of it. */
    private static final class League {
        static final int CLUB = 0, LAND = 1, SEED = 2, HOURS = 2, FENCER_WIDTH = 3, REFEREE_WIDTH = 3;
        static final int MOST_FENCERS = 16;

        final Table acts = new Table(20, Phrases.WIDTH);
        final Table fencers = new Table(MOST_FENCERS, FENCER_WIDTH);
        final Table bouts = new Table(120, Bouts.WIDTH);
        final Table pools = new Table(6, 1);
        final Table texts = new Table(4, Formula.WIDTH);
        final Table referees = new Table(Referees.MOST_REFEREES, REFEREE_WIDTH);
        final Table notes = new Table(60, Referees.NOTE_WIDTH);
        final Table results = new Table(60, Rankings.WIDTH);
        final Table pairs = new Table(Relays.TEAM * Relays.TEAM, Relays.WIDTH);
        int bestCounted = 5;

        League() {
            texts.addAll();
        }

        void copyFrom(League other) {
            acts.copyFrom(other.acts);
            fencers.copyFrom(other.fencers);
            bouts.copyFrom(other.bouts);
            pools.copyFrom(other.pools);
            texts.copyFrom(other.texts);
            referees.copyFrom(other.referees);
            notes.copyFrom(other.notes);
            results.copyFrom(other.results);
            pairs.copyFrom(other.pairs);
            bestCounted = other.bestCounted;
        }

        boolean isSet(int bits, int fewest, int most) {
            return bits > 0 && (bits >> fencers.rows) == 0 && within(Integer.bitCount(bits), fewest, most);
        }

        boolean isMember(int bits, int fencer) {
            return fencers.has(fencer) && ((bits >> fencer) & 1) == 1;
        }

        boolean isInPool(int pool, int fencer) {
            return pools.has(pool) && isMember(pools.get(pool, 0), fencer);
        }

        /** Puts the set into a row, by seeds and then by numbers: how many. */
        int seededInto(int bits, int[] row) {
            int many = 0;
            for (int fencer = 0; fencer < fencers.rows && many < row.length; fencer++) {
                if (isMember(bits, fencer)) {
                    int seed = fencers.get(fencer, SEED);
                    int at = many;
                    while (at > 0 && fencers.get(row[at - 1], SEED) > seed) {
                        row[at] = row[at - 1];
                        at--;
                    }
                    row[at] = fencer;
                    many++;
                }
            }
            return many;
        }
    }

    /** Who has the line, and whose the touch is. */
    private static final class Phrases {
        static final int WHO = 0, SORT = 1, TIME = 2, WIDTH = 3;
        static final int ATTACK = 0, PARRY = 1, RIPOSTE = 2, HALT = 3, LIGHT = 4;
        static final int FOIL = 0, SABRE = 1, EPEE = 2;
        static final int LAST_TIME = 9999, BOTH_TOUCH = 2;

        final Table acts;
        int riposteWithin, holder, attacker, attackedAt, shutAt;
        int firstParry, secondParry;

        Phrases(Table acts) {
            this.acts = acts;
        }

        int lastTime() {
            return acts.rows == 0 ? 0 : acts.get(acts.rows - 1, TIME);
        }

        int holderAt(int weapon, int time) {
            riposteWithin = weapon == FOIL ? 300 : 200;
            holder = NONE;
            attacker = NONE;
            attackedAt = NONE;
            shutAt = NONE;
            firstParry = NONE;
            secondParry = NONE;
            for (int i = 0; i < acts.rows && acts.get(i, TIME) <= time; i++) {
                follow(acts.get(i, SORT), acts.get(i, WHO), acts.get(i, TIME));
            }
            return holder;
        }

        private void follow(int sort, int who, int time) {
            switch (sort) {
                case ATTACK:
                    attack(who, time);
                    break;
                case PARRY:
                    if (holder == 1 - who) {
                        holder = NONE;
                        setParry(who, time);
                    }
                    break;
                case RIPOSTE:
                    riposte(who, time);
                    break;
                case HALT:
                    if (holder == who) {
                        holder = NONE;
                    }
                    break;
                default:
                    break;
            }
        }

        /** It is asked who took the line at that time, not who still has it: so the document's words say. */
        private void attack(int who, int time) {
            if (attacker == 1 - who && attackedAt == time) {
                holder = NONE;
                shutAt = time;
            } else if (holder == NONE && shutAt != time) {
                holder = who;
                attacker = who;
                attackedAt = time;
            }
        }

        private void riposte(int who, int time) {
            int parried = who == 0 ? firstParry : secondParry;
            if (parried != NONE && time - parried <= riposteWithin && holder == NONE) {
                holder = who;
                setParry(who, NONE);
            }
        }

        private void setParry(int who, int time) {
            if (who == 0) {
                firstParry = time;
            } else {
                secondParry = time;
            }
        }

        int touchBy(int weapon) {
            int left = lampOf(0), right = lampOf(1);
            if (left == NONE || right == NONE) {
                return left != NONE ? 0 : right != NONE ? 1 : NONE;
            }
            if (Math.abs(left - right) > lampWithin(weapon)) {
                return left < right ? 0 : 1;
            }
            return weapon == EPEE ? BOTH_TOUCH : holderAt(weapon, Math.min(left, right));
        }

        private int lampOf(int who) {
            for (int i = 0; i < acts.rows; i++) {
                if (acts.get(i, SORT) == LIGHT && acts.get(i, WHO) == who) {
                    return acts.get(i, TIME);
                }
            }
            return NONE;
        }

        private static int lampWithin(int weapon) {
            return weapon == FOIL ? 300 : weapon == SABRE ? 170 : 40;
        }
    }

    /** Bouts hold how they stand; their events need not be kept, since each is judged as it comes. */
    private static final class Bouts {
        static final int FENCERS = 0, POOL = 2, ENOUGH = 3, LIMIT = 4, TOSS = 5;
        /** From here on the columns are what is told about a bout, in the order of the document. */
        static final int ABOUT = 6, TOUCHES = 6, OVER = 8, WON = 9, YELLOWS = 10, REDS = 12, VOID = 14, EVENTS = 15;
        static final int DIGESTED = 16, LAST = 16, WIDTH = 17;
        static final int TOUCH = 0, BOTH = 1, YELLOW = 2, RED = 3, BLACK = 4, HURT = 5;
        static final int MOST_EVENTS = 40, LAST_TIME = 99999, EXTRA = 1000;

        final Table table;

        Bouts(Table table) {
            this.table = table;
        }

        boolean isOver(int bout) {
            return table.get(bout, OVER) == 1;
        }

        boolean isVoid(int bout) {
            return table.get(bout, VOID) == 1;
        }

        boolean stands(int bout) {
            return isOver(bout) && !isVoid(bout);
        }

        int standing() {
            int many = 0;
            for (int bout = 0; bout < table.rows; bout++) {
                if (stands(bout)) {
                    many++;
                }
            }
            return many;
        }

        void win(int bout, int who) {
            table.set(bout, OVER, 1);
            table.set(bout, WON, who);
        }

        private int leader(int bout) {
            int margin = table.get(bout, TOUCHES) - table.get(bout, TOUCHES + 1);
            return margin > 0 ? 0 : margin < 0 ? 1 : NONE;
        }

        int close(int bout) {
            int who = leader(bout);
            win(bout, who == NONE ? table.get(bout, TOSS) : who);
            return table.get(bout, WON);
        }

        /** An event that comes when time has decided tells only that: nothing of its own counts any more. */
        void take(int bout, int sort, int who, int time) {
            table.raise(bout, EVENTS, 1);
            table.set(bout, LAST, time);
            if (isDecided(bout, time)) {
                close(bout);
            } else {
                judge(bout, sort, who, time > table.get(bout, LIMIT));
            }
        }

        private boolean isDecided(int bout, int time) {
            int limit = table.get(bout, LIMIT);
            return time > limit && (leader(bout) != NONE || time > limit + EXTRA);
        }

        private void judge(int bout, int sort, int who, boolean extra) {
            switch (sort) {
                case TOUCH:
                    score(bout, who, extra);
                    break;
                case BOTH:
                    if (!extra) {
                        scoreBoth(bout);
                    }
                    break;
                case YELLOW:
                    if (table.get(bout, YELLOWS + who) == 0) {
                        table.set(bout, YELLOWS + who, 1);
                    } else {
                        red(bout, who, extra);
                    }
                    break;
                case RED:
                    red(bout, who, extra);
                    break;
                default:
                    win(bout, 1 - who);
                    break;
            }
        }

        private void red(int bout, int who, boolean extra) {
            table.raise(bout, REDS + who, 1);
            score(bout, 1 - who, extra);
        }

        private void score(int bout, int who, boolean extra) {
            table.raise(bout, TOUCHES + who, 1);
            if (extra || hasEnough(bout, who, 0)) {
                win(bout, who);
            }
        }

        private void scoreBoth(int bout) {
            if (hasEnough(bout, 0, 1) && hasEnough(bout, 1, 1)) {
                return;
            }
            score(bout, 0, false);
            score(bout, 1, false);
        }

        private boolean hasEnough(int bout, int who, int more) {
            return table.get(bout, TOUCHES + who) + more >= table.get(bout, ENOUGH);
        }

        /** Who won the latest bout of both that stands and is of no pool. */
        int winnerOf(int a, int b) {
            for (int bout = table.rows - 1; bout >= 0; bout--) {
                int first = table.get(bout, FENCERS), second = table.get(bout, FENCERS + 1);
                boolean theirs = (first == a && second == b) || (first == b && second == a);
                if (theirs && stands(bout) && table.get(bout, POOL) == NONE) {
                    return table.get(bout, WON) == 0 ? first : second;
                }
            }
            return NONE;
        }
    }

    /** Indicators, the order of a pool, the order beside it, and what hangs on a bout. */
    private static final class Pools {
        static final int MOST_FENCERS = 7;
        static final int WINS = 0, MARGIN = 1, GIVEN = 2, FOUGHT = 3;
        static final int SUM_WON = 0, SUM_FOUGHT = 1, SUM_GIVEN = 2, SUM_RECEIVED = 3, SUM_YELLOWS = 4, SUM_REDS = 5;
        static final int SUMS = 6;

        final League league;
        final Bouts bouts;
        final Formula formula;
        final Table sums = new Table(League.MOST_FENCERS, SUMS);
        final int[] ranked = new int[MOST_FENCERS];
        final int[] rankedBefore = new int[MOST_FENCERS];
        final long[] told = new long[MOST_FENCERS];
        int many;

        Pools(League league, Bouts bouts, Formula formula) {
            this.league = league;
            this.bouts = bouts;
            this.formula = formula;
        }

        int indicatorOf(int pool, int fencer, int what) {
            tally(pool, NONE);
            return valueOf(fencer, what);
        }

        int placed(int pool, int i) {
            rank(pool, NONE);
            return within(i, 0, many - 1) ? ranked[i] : NONE;
        }

        long toldOf(int text, int pool, int fencer) {
            tally(pool, NONE);
            return tellsOf(text, fencer);
        }

        int placedBeside(int text, int pool, int i) {
            rank(pool, NONE);
            for (int at = 0; at < many; at++) {
                told[at] = tellsOf(text, ranked[at]);
            }
            sortByTold();
            return within(i, 0, many - 1) ? ranked[i] : NONE;
        }

        int hangingOn(int pool, int bout) {
            rank(pool, NONE);
            System.arraycopy(ranked, 0, rankedBefore, 0, MOST_FENCERS);
            rank(pool, bout);
            int bits = 0;
            for (int at = 0; at < many; at++) {
                if (ranked[at] != rankedBefore[at]) {
                    bits |= 1 << ranked[at];
                }
            }
            return bits;
        }

        private void tally(int pool, int without) {
            sums.rows = 0;
            sums.addAll();
            for (int bout = 0; bout < league.bouts.rows; bout++) {
                if (bout != without && league.bouts.get(bout, Bouts.POOL) == pool && bouts.stands(bout)) {
                    tallySide(bout, 0);
                    tallySide(bout, 1);
                }
            }
        }

        private void tallySide(int bout, int side) {
            Table from = league.bouts;
            int fencer = from.get(bout, Bouts.FENCERS + side);
            sums.raise(fencer, SUM_WON, from.get(bout, Bouts.WON) == side ? 1 : 0);
            sums.raise(fencer, SUM_FOUGHT, 1);
            sums.raise(fencer, SUM_GIVEN, from.get(bout, Bouts.TOUCHES + side));
            sums.raise(fencer, SUM_RECEIVED, from.get(bout, Bouts.TOUCHES + 1 - side));
            sums.raise(fencer, SUM_YELLOWS, from.get(bout, Bouts.YELLOWS + side));
            sums.raise(fencer, SUM_REDS, from.get(bout, Bouts.REDS + side));
        }

        private int valueOf(int fencer, int what) {
            int fought = sums.get(fencer, SUM_FOUGHT);
            switch (what) {
                case WINS: return fought == 0 ? 0 : 1000 * sums.get(fencer, SUM_WON) / fought;
                case MARGIN: return sums.get(fencer, SUM_GIVEN) - sums.get(fencer, SUM_RECEIVED);
                case GIVEN: return sums.get(fencer, SUM_GIVEN);
                default: return fought;
            }
        }

        private void rank(int pool, int without) {
            tally(pool, without);
            many = 0;
            for (int fencer = 0; fencer < league.fencers.rows && many < MOST_FENCERS; fencer++) {
                if (league.isInPool(pool, fencer)) {
                    int at = many;
                    while (at > 0 && isAhead(fencer, ranked[at - 1])) {
                        ranked[at] = ranked[at - 1];
                        at--;
                    }
                    ranked[at] = fencer;
                    many++;
                }
            }
        }

        /** Alike ones stay by number, since they come to be ranked in that order. */
        private boolean isAhead(int fencer, int other) {
            for (int what = WINS; what <= GIVEN; what++) {
                int mine = valueOf(fencer, what), its = valueOf(other, what);
                if (mine != its) {
                    return mine > its;
                }
            }
            return league.fencers.get(fencer, League.SEED) < league.fencers.get(other, League.SEED);
        }

        private long tellsOf(int text, int fencer) {
            formula.setLetter(0, valueOf(fencer, WINS));
            formula.setLetter(1, valueOf(fencer, MARGIN));
            formula.setLetter(2, valueOf(fencer, GIVEN));
            formula.setLetter(3, valueOf(fencer, FOUGHT));
            formula.setLetter(4, league.fencers.get(fencer, League.SEED));
            formula.setLetter(5, sums.get(fencer, SUM_YELLOWS));
            formula.setLetter(6, sums.get(fencer, SUM_REDS));
            formula.read(text);
            return formula.value;
        }

        /** Moves only those that are told more, so that alike ones stay as the order has them. */
        private void sortByTold() {
            for (int next = 1; next < many; next++) {
                int fencer = ranked[next];
                long much = told[next];
                int at = next;
                while (at > 0 && told[at - 1] < much) {
                    ranked[at] = ranked[at - 1];
                    told[at] = told[at - 1];
                    at--;
                }
                ranked[at] = fencer;
                told[at] = much;
            }
        }
    }

    /** Reads a text once, left to right, and tells its fault or its value; a level stands for each ( that is open. */
    private static final class Formula {
        static final int LENGTH = 0, CHARACTERS = 1, MOST_CHARACTERS = 50, WIDTH = 51;
        static final String LETTERS = "wdgbsyr";
        static final int MOST_DIGITS = 6, MOST_OPEN = 8;
        static final int CAN_NOT_STAND = 1, TOO_MANY_DIGITS = 2, TOO_MANY_OPEN = 3;

        final Table texts;
        final int[] signs = new int[MOST_CHARACTERS];
        final int[] letters = new int[7];
        final long[] sum = new long[MOST_OPEN + 1];
        final long[] product = new long[MOST_OPEN + 1];
        final boolean[] subtracts = new boolean[MOST_OPEN + 1];
        final boolean[] negates = new boolean[MOST_OPEN + 1];
        final int[] joint = new int[MOST_OPEN + 1];
        int length, depth, fault;
        boolean wantsUnit;
        long value;

        Formula(Table texts) {
            this.texts = texts;
        }

        void setLetter(int which, int much) {
            if (within(which, 0, letters.length - 1)) {
                letters[which] = much;
            }
        }

        int read(int text) {
            load(text);
            depth = 0;
            fault = NONE;
            value = 0;
            openLevel();
            int place = 0;
            for (int steps = 0; steps < MOST_CHARACTERS && place < length && fault == NONE; steps++) {
                place = readAt(place);
            }
            if (fault == NONE && (wantsUnit || depth > 0)) {
                fault = 10 * length + CAN_NOT_STAND;
            }
            if (fault == NONE) {
                closeTerm();
                value = sum[0];
            }
            return fault;
        }

        private void load(int text) {
            length = Math.min(texts.get(text, LENGTH), MOST_CHARACTERS);
            for (int place = 0; place < length; place++) {
                signs[place] = texts.get(text, CHARACTERS + place);
            }
        }

        /** Reads what begins at a place: the place behind it. */
        private int readAt(int place) {
            int sign = signAt(place);
            if (wantsUnit && isDigit(sign)) {
                return readDigits(place);
            }
            if (sign != ' ' && !(wantsUnit ? readUnit(sign, place) : readJoint(sign))) {
                tellFault(place, CAN_NOT_STAND);
            }
            return place + 1;
        }

        private int signAt(int place) {
            return place >= 0 && place < length && place < signs.length ? signs[place] : 0;
        }

        private static boolean isDigit(int sign) {
            return sign >= '0' && sign <= '9';
        }

        private int readDigits(int first) {
            int number = 0, place = first;
            while (place < first + MOST_DIGITS && isDigit(signAt(place))) {
                number = 10 * number + signAt(place) - '0';
                place++;
            }
            if (isDigit(signAt(place))) {
                tellFault(first, TOO_MANY_DIGITS);
            }
            closeUnit(number);
            return place;
        }

        private boolean readUnit(int sign, int place) {
            if (sign == '-') {
                negates[depth] = !negates[depth];
                return true;
            }
            if (sign == '(') {
                if (depth >= MOST_OPEN) {
                    tellFault(place, TOO_MANY_OPEN);
                } else {
                    depth++;
                    openLevel();
                }
                return true;
            }
            int which = LETTERS.indexOf((char) sign);
            if (!within(which, 0, letters.length - 1)) {
                return false;
            }
            closeUnit(letters[which]);
            return true;
        }

        private boolean readJoint(int sign) {
            if (sign == ')' && depth > 0) {
                closeTerm();
                long inner = sum[depth];
                depth--;
                closeUnit(inner);
                return true;
            }
            if (sign == '+' || sign == '-') {
                closeTerm();
                subtracts[depth] = sign == '-';
                joint[depth] = 0;
                wantsUnit = true;
                return true;
            }
            if (sign == '*' || sign == '/') {
                joint[depth] = sign;
                wantsUnit = true;
                return true;
            }
            return false;
        }

        private void openLevel() {
            sum[depth] = 0;
            product[depth] = 0;
            subtracts[depth] = false;
            negates[depth] = false;
            joint[depth] = 0;
            wantsUnit = true;
        }

        private void closeUnit(long plain) {
            long unit = negates[depth] ? -plain : plain;
            negates[depth] = false;
            if (joint[depth] == '*') {
                product[depth] *= unit;
            } else if (joint[depth] == '/') {
                product[depth] = unit == 0 ? 0 : product[depth] / unit;
            } else {
                product[depth] = unit;
            }
            wantsUnit = false;
        }

        private void closeTerm() {
            sum[depth] += subtracts[depth] ? -product[depth] : product[depth];
        }

        private void tellFault(int place, int sort) {
            fault = 10 * place + sort;
        }

        long mixedInto(long h) {
            for (int text = 0; text < texts.rows; text++) {
                int many = texts.get(text, LENGTH);
                h = 31 * h + many;
                for (int place = 0; place < many; place++) {
                    h = 31 * h + texts.get(text, CHARACTERS + place);
                }
            }
            return h;
        }
    }

    /** Who stands where in a ladder, round by round. */
    private static final class Ladders {
        static final int MOST_FENCERS = 16, MOST_ROUNDS = 4, NOT_TOLD = -5;

        final League league;
        final Bouts bouts;
        final int[] seeded = new int[MOST_FENCERS];
        final int[] places = new int[MOST_FENCERS];

        Ladders(League league, Bouts bouts) {
            this.league = league;
            this.bouts = bouts;
        }

        /** How many places a round has: 0 if there is no such round. */
        int placesIn(int fencers, int round) {
            return within(round, 0, MOST_ROUNDS) ? tableSize(Integer.bitCount(fencers)) >> round : 0;
        }

        private static int tableSize(int many) {
            int size = 2;
            while (size < many && size < MOST_FENCERS) {
                size *= 2;
            }
            return size;
        }

        int standsAt(int fencers, int round, int i) {
            int many = league.seededInto(fencers, seeded);
            int size = tableSize(many);
            layTable(size);
            for (int k = 0; k < size; k++) {
                places[k] = within(places[k], 0, many - 1) ? seeded[places[k]] : NONE;
            }
            for (int step = 0; step < round && size > 1; step++) {
                size /= 2;
                for (int j = 0; j < size; j++) {
                    places[j] = goesOn(places[2 * j], places[2 * j + 1]);
                }
            }
            return within(i, 0, size - 1) ? places[i] : NONE;
        }

        /** From the last place down, so that a table grows in its own row. */
        private void layTable(int size) {
            places[0] = 0;
            places[1] = 1;
            for (int m = 2; m < size; m *= 2) {
                for (int k = m - 1; k >= 0; k--) {
                    int number = places[k], against = 2 * m - 1 - number;
                    places[2 * k] = k % 2 == 0 ? number : against;
                    places[2 * k + 1] = k % 2 == 0 ? against : number;
                }
            }
        }

        private int goesOn(int one, int other) {
            if (one == NOT_TOLD || other == NOT_TOLD) {
                return NOT_TOLD;
            }
            if (one == NONE || other == NONE) {
                return one == NONE ? other : one;
            }
            int winner = bouts.winnerOf(one, other);
            return winner == NONE ? NOT_TOLD : winner;
        }
    }

    /** Pools made with clubs and lands apart: ways are tried in their order, one that can not be better is left. */
    private static final class Apart {
        static final int MOST_FENCERS = 12, MOST_POOLS = 3;
        static final int SAME_CLUB = 3, SAME_LAND = 1, MORE_THAN_ANY = 1000000;

        final League league;
        final int[] seeded = new int[MOST_FENCERS];
        final int[] chosen = new int[MOST_FENCERS];
        final int[] best = new int[MOST_FENCERS];
        final Table clash = new Table(MOST_FENCERS, MOST_FENCERS);
        int many, pools, least;

        Apart(League league) {
            this.league = league;
        }

        int clashes() {
            return least;
        }

        int poolOf(int fencer) {
            for (int at = 0; at < many; at++) {
                if (seeded[at] == fencer) {
                    return best[at];
                }
            }
            return NONE;
        }

        void make(int fencers, int p) {
            many = league.seededInto(fencers, seeded);
            pools = Math.max(1, p);
            least = MORE_THAN_ANY;
            for (int at = 0; at < many; at++) {
                for (int ahead = 0; ahead < at; ahead++) {
                    clash.set(at, ahead, clashOf(seeded[at], seeded[ahead]));
                }
            }
            tryFrom(0, 0);
        }

        private int clashOf(int fencer, int other) {
            Table fencers = league.fencers;
            if (fencers.get(fencer, League.CLUB) == fencers.get(other, League.CLUB)) {
                return SAME_CLUB;
            }
            return fencers.get(fencer, League.LAND) == fencers.get(other, League.LAND) ? SAME_LAND : 0;
        }

        /** Goes one deeper for each fencer, twelve at most. */
        private void tryFrom(int at, int cost) {
            if (cost >= least) {
                return;
            }
            if (at >= many || at >= MOST_FENCERS) {
                least = cost;
                System.arraycopy(chosen, 0, best, 0, MOST_FENCERS);
                return;
            }
            for (int pool = 0; pool < pools; pool++) {
                if (isOpen(at, pool)) {
                    chosen[at] = pool;
                    tryFrom(at + 1, cost + costOf(at, pool));
                }
            }
        }

        /** The first row goes 0, 1, 2: any other way has one like it, with other names of pools, ahead of it. */
        private boolean isOpen(int at, int pool) {
            if (at < pools) {
                return pool == at;
            }
            for (int ahead = at - at % pools; ahead < at; ahead++) {
                if (chosen[ahead] == pool) {
                    return false;
                }
            }
            return true;
        }

        private int costOf(int at, int pool) {
            int cost = 0;
            for (int ahead = 0; ahead < at; ahead++) {
                if (chosen[ahead] == pool) {
                    cost += clash.get(at, ahead);
                }
            }
            return cost;
        }
    }

    /** Who serves at the bouts of one hour, and what the notes say of a habit. */
    private static final class Referees {
        static final int MOST_REFEREES = 8, MOST_BOUTS = 8, LAST_BOUT = 29;
        static final int JUDGES = 0, TOLD = 2, NOTE_WIDTH = 4;

        final League league;
        final int[] hour = new int[MOST_BOUTS];
        final int[] free = new int[MOST_BOUTS];
        final int[] serving = new int[MOST_BOUTS];
        /** By the bits of referees that serve already: the least sum for the bouts that are left. */
        final int[] least = new int[1 << MOST_REFEREES];
        int many;

        Referees(League league) {
            this.league = league;
        }

        boolean isOneHour(int bits) {
            int there = Math.min(league.bouts.rows, LAST_BOUT + 1);
            return bits >= 0 && (bits >> there) == 0 && Integer.bitCount(bits) <= MOST_BOUTS;
        }

        boolean assign(int bits) {
            gather(bits);
            int last = Math.min(1 << league.referees.rows, least.length) - 1;
            for (int used = last; used >= 0; used--) {
                least[used] = leastBehind(used);
            }
            if (least[0] == NONE) {
                return false;
            }
            int used = 0;
            for (int at = 0; at < many; at++) {
                serving[at] = firstOfLeast(at, used);
                used |= 1 << serving[at];
            }
            return true;
        }

        private void gather(int bits) {
            many = 0;
            for (int bout = 0; bout <= LAST_BOUT && many < MOST_BOUTS; bout++) {
                if (((bits >> bout) & 1) == 1) {
                    hour[many] = bout;
                    free[many] = withoutKin(bout);
                    many++;
                }
            }
        }

        private int withoutKin(int bout) {
            int a = league.bouts.get(bout, Bouts.FENCERS), b = league.bouts.get(bout, Bouts.FENCERS + 1);
            int bits = 0;
            for (int referee = 0; referee < league.referees.rows; referee++) {
                if (!isKin(referee, a) && !isKin(referee, b)) {
                    bits |= 1 << referee;
                }
            }
            return bits;
        }

        private boolean isKin(int referee, int fencer) {
            return league.referees.get(referee, League.CLUB) == league.fencers.get(fencer, League.CLUB)
                    || league.referees.get(referee, League.LAND) == league.fencers.get(fencer, League.LAND);
        }

        private int leastBehind(int used) {
            int at = Integer.bitCount(used);
            if (at >= many) {
                return at == many ? 0 : NONE;
            }
            int best = NONE;
            for (int referee = 0; referee < league.referees.rows; referee++) {
                int sum = sumWith(at, used, referee);
                if (sum != NONE && (best == NONE || sum < best)) {
                    best = sum;
                }
            }
            return best;
        }

        /** The least sum if a referee serves at a bout and others behind it; NONE if that can not be. */
        private int sumWith(int at, int used, int referee) {
            int with = used | (1 << referee);
            if (with == used || (free[at] & (1 << referee)) == 0 || with >= least.length || least[with] == NONE) {
                return NONE;
            }
            return league.referees.get(referee, League.HOURS) + least[with];
        }

        private int firstOfLeast(int at, int used) {
            for (int referee = 0; referee < league.referees.rows && used < least.length; referee++) {
                int sum = sumWith(at, used, referee);
                if (sum != NONE && sum == least[used]) {
                    return referee;
                }
            }
            return 0;
        }

        int servingAt(int bout) {
            for (int at = 0; at < many; at++) {
                if (hour[at] == bout) {
                    return serving[at];
                }
            }
            return NONE;
        }

        int workTheHour() {
            for (int at = 0; at < many; at++) {
                league.referees.raise(serving[at], League.HOURS, 1);
            }
            return many;
        }

        /** Of a referee's notes: 0 how many differ, 1, 2 at how many it, the other one alone told for 0, 3 the habit. */
        int leaning(int referee, int what) {
            int differ = 0, own = 0, others = 0;
            for (int note = 0; note < league.notes.rows; note++) {
                int side = sideOf(note, referee);
                int mine = league.notes.get(note, TOLD + side), its = league.notes.get(note, TOLD + 1 - side);
                if (side != NONE && mine != its) {
                    differ++;
                    own += mine == 0 ? 1 : 0;
                    others += its == 0 ? 1 : 0;
                }
            }
            switch (what) {
                case 0: return differ;
                case 1: return own;
                case 2: return others;
                default: return habitFrom(own, others);
            }
        }

        private int sideOf(int note, int referee) {
            if (league.notes.get(note, JUDGES) == referee) {
                return 0;
            }
            return league.notes.get(note, JUDGES + 1) == referee ? 1 : NONE;
        }

        private static int habitFrom(int own, int others) {
            if (own == others || !isRare(Math.max(own, others), own + others)) {
                return 0;
            }
            return own > others ? 1 : -1;
        }

        /** Whole numbers, so that the edge at 1 by 20 is exact; 60 notes at most keep them within a long. */
        private static boolean isRare(int many, int all) {
            if (!within(all, 0, 60)) {
                return false;
            }
            long ways = 1, sum = 0;
            for (int k = all; k >= many && k >= 0; k--) {
                sum += ways;
                ways = ways * k / (all - k + 1);
            }
            return sum <= (1L << all) / 20;
        }
    }

    /** Nine turns of two teams, and the order that gains most. */
    private static final class Relays {
        static final int TEAM = 3, TURNS = 9, MOST_TOUCHES = 15, TOUCHES_A_TURN = 5;
        static final int MANY = 0, BITS = 1, WIDTH = 2;
        static final int[] FIRST_PLACES = {2, 0, 1, 2, 0, 1, 0, 1, 2};
        static final int[] SECOND_PLACES = {2, 1, 0, 1, 0, 2, 2, 1, 0};
        static final int[] ORDERS = {12, 21, 102, 120, 201, 210};

        final Table pairs;
        final int[] behind = new int[2 * TURNS];

        Relays(Table pairs) {
            this.pairs = pairs;
        }

        boolean isOrder(int order) {
            for (int i = 0; i < ORDERS.length; i++) {
                if (ORDERS[i] == order) {
                    return true;
                }
            }
            return false;
        }

        int marginOf(int order) {
            int first = 0, second = 0;
            for (int turn = 0; turn < TURNS; turn++) {
                int row = fencerAt(order, FIRST_PLACES[turn]) * TEAM + SECOND_PLACES[turn];
                int till = TOUCHES_A_TURN * (turn + 1);
                int many = pairs.get(row, MANY), bits = pairs.get(row, BITS);
                for (int touch = 0; touch < many && first < till && second < till; touch++) {
                    if (((bits >> touch) & 1) == 0) {
                        first++;
                    } else {
                        second++;
                    }
                }
                behind[2 * turn] = first;
                behind[2 * turn + 1] = second;
            }
            return first - second;
        }

        private static int fencerAt(int order, int place) {
            return place == 0 ? order / 100 : place == 1 ? order / 10 % 10 : order % 10;
        }

        /** As the relay that was last run left it. */
        int touchesBehind(int what) {
            return within(what, 0, behind.length - 1) ? behind[what] : 0;
        }

        int orderOfMostGain() {
            int best = ORDERS[0], margin = marginOf(best);
            for (int i = 1; i < ORDERS.length; i++) {
                int gained = marginOf(ORDERS[i]);
                if (gained > margin) {
                    best = ORDERS[i];
                    margin = gained;
                }
            }
            return best;
        }
    }

    /** Sums of the greatest results of the last weeks, as they were known. */
    private static final class Rankings {
        static final int FENCER = 0, WEEK = 1, POINTS = 2, KNOWN = 3, WIDTH = 4;
        static final int MOST_COUNTED = 10, WEEKS_AHEAD = 51;

        final League league;
        final int[] greatest = new int[MOST_COUNTED];

        Rankings(League league) {
            this.league = league;
        }

        int sumOf(int fencer, int week, int known) {
            int many = Math.min(league.bestCounted, MOST_COUNTED);
            for (int at = 0; at < many; at++) {
                greatest[at] = 0;
            }
            Table results = league.results;
            for (int row = 0; row < results.rows; row++) {
                if (results.get(row, FENCER) == fencer && results.get(row, KNOWN) <= known
                        && within(results.get(row, WEEK), week - WEEKS_AHEAD, week)) {
                    keepGreatest(results.get(row, POINTS), many);
                }
            }
            int sum = 0;
            for (int at = 0; at < many; at++) {
                sum += greatest[at];
            }
            return sum;
        }

        private void keepGreatest(int points, int many) {
            int carried = points;
            for (int at = 0; at < many; at++) {
                int here = greatest[at];
                if (carried > here) {
                    greatest[at] = carried;
                    carried = here;
                }
            }
        }

        int rankOf(int fencer, int week, int known) {
            int own = sumOf(fencer, week, known);
            int rank = 1;
            for (int other = 0; other < league.fencers.rows; other++) {
                if (sumOf(other, week, known) > own) {
                    rank++;
                }
            }
            return rank;
        }
    }
}
