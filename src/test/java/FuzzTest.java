import java.util.Random;

/** All promises: runs of 512 calls, most of them as told, some wild, answered as the Model answers. */
public final class FuzzTest {
    private static final int RUNS = 400, CALLS = 512;
    private static final int[] EDGES = {-1, -2, 0, 1, 16, 31, 32, 64, 1 << 30, Integer.MAX_VALUE, Integer.MIN_VALUE};
    private static final String SIGNS = "wdgbsyr0123456789+-*/()  ";

    private final Random random;
    private final TouchLeague x = new TouchLeague();
    private final Model m = new Model();
    private final int wildOneIn;
    private String call;
    private long got, want;
    private int clock;

    private FuzzTest(long seed) {
        random = new Random(seed);
        wildOneIn = seed % 4 == 0 ? 5 : 60;
    }

    public static void main(String[] args) {
        int wrong = 0;
        long asked = 0;
        for (long seed = 1; seed <= RUNS && wrong < 5; seed++) {
            FuzzTest run = new FuzzTest(seed);
            int kind = (int) (seed % 7);
            for (int i = 0; i < CALLS; i++) {
                run.step(i < 40 ? 6 : kind);
                asked++;
                if (run.got != run.want) {
                    wrong++;
                    System.out.println("run " + seed + " call " + i + ": " + run.call + " answered " + run.got
                            + ", the model " + run.want);
                    break;
                }
            }
        }
        System.out.println(asked + " asked, " + wrong + " wrong");
        if (wrong != 0) {
            System.exit(1);
        }
    }

    /** From least to most, but now and then anything. */
    private int any(int least, int most) {
        if (random.nextInt(wildOneIn) == 0) {
            return random.nextBoolean() ? EDGES[random.nextInt(EDGES.length)] : most + 1 - random.nextInt(2) * (most - least + 2);
        }
        return least + random.nextInt(most - least + 1);
    }

    private void asked(String name, long got, long want, long... args) {
        StringBuilder text = new StringBuilder(name).append('(');
        for (int i = 0; i < args.length; i++) {
            text.append(i == 0 ? "" : ", ").append(args[i]);
        }
        call = text.append(')').toString();
        this.got = got;
        this.want = want;
    }

    /** Kinds of runs look at one part of the document more than at the others. */
    private void step(int kind) {
        int part = random.nextInt(3) == 0 ? random.nextInt(6) : kind;
        switch (part) {
            case 0: phraseStep(); break;
            case 1: boutStep(); break;
            case 2: poolStep(); break;
            case 3: textStep(); break;
            case 4: drawStep(); break;
            case 5: listStep(); break;
            default: makeStep(); break;
        }
        if (random.nextInt(12) == 0) {
            if (got == want) {
                asked("digest behind " + call, x.digest(), m.digest());
            }
        }
    }

    private void phraseStep() {
        int kind = random.nextInt(14);
        if (kind == 0) {
            clock = 0;
            asked("phrase", x.phrase(), m.phrase());
        } else if (kind < 9) {
            int f = any(0, 1), sort = any(0, 4);
            int step = new int[] {0, 0, 1, 30, 40, 41, 60, 170, 200, 300}[random.nextInt(10)];
            int t = random.nextInt(wildOneIn) == 0 ? any(0, 9999) : Math.min(9999, clock + step);
            long g = x.act(f, sort, t), w = m.act(f, sort, t);
            clock = w > 0 ? t : clock;
            asked("act", g, w, f, sort, t);
        } else if (kind < 11) {
            int weapon = any(0, 1), t = random.nextBoolean() ? clock : any(0, Math.max(1, clock));
            asked("line", x.line(weapon, t), m.line(weapon, t), weapon, t);
        } else {
            int weapon = any(0, 2);
            asked("touch", x.touch(weapon), m.touch(weapon), weapon);
        }
    }

    private void newBout() {
        int a = any(0, Math.max(1, m.count(1) - 1)), b = any(0, Math.max(1, m.count(1) - 1));
        int pool = random.nextInt(3) == 0 ? -1 : any(0, Math.max(1, m.count(4) - 1));
        int n = any(1, random.nextBoolean() ? 3 : 15), limit = any(1, random.nextBoolean() ? 40 : 9999), toss = any(0, 1);
        asked("bout", x.bout(a, b, pool, n, limit, toss), m.bout(a, b, pool, n, limit, toss), a, b, pool, n, limit, toss);
    }

    private int someBout() {
        int many = m.count(2);
        return random.nextBoolean() ? any(Math.max(0, many - 4), Math.max(0, many - 1)) : any(0, Math.max(0, many - 1));
    }

    private final int[] boutClock = new int[128];

    private void someEvent() {
        int bout = someBout(), sort = random.nextInt(3) > 0 ? any(0, 1) : any(0, 5), who = any(0, 1);
        int at = bout >= 0 && bout < 128 ? boutClock[bout] : 0;
        int t = random.nextInt(wildOneIn) == 0 ? any(0, 99999) : at + random.nextInt(random.nextInt(8) == 0 ? 1100 : 9);
        long g = x.event(bout, sort, who, t), w = m.event(bout, sort, who, t);
        if (w > 0) {
            boutClock[bout] = t;
        }
        asked("event", g, w, bout, sort, who, t);
    }

    private void boutStep() {
        int kind = random.nextInt(20);
        int bout = someBout();
        if (kind < 3) {
            newBout();
        } else if (kind < 11) {
            someEvent();
        } else if (kind < 13) {
            asked("end", x.end(bout), m.end(bout), bout);
        } else if (kind < 14) {
            int who = any(0, 1);
            asked("walkover", x.walkover(bout, who), m.walkover(bout, who), bout, who);
        } else if (kind < 15) {
            boolean is = random.nextBoolean();
            asked("tear", x.tear(bout, is), m.tear(bout, is), bout, is ? 1 : 0);
        } else {
            int what = any(0, 9);
            asked("about", x.about(bout, what), m.about(bout, what), bout, what);
        }
    }

    private int someSet(int most) {
        int many = Math.max(1, m.count(1)), bits = 0;
        for (int i = random.nextInt(most + 1); i >= 0; i--) {
            bits |= 1 << random.nextInt(many);
        }
        return random.nextInt(wildOneIn) == 0 ? any(0, 1 << many) : bits;
    }

    private void poolStep() {
        int kind = random.nextInt(16);
        int pool = any(0, Math.max(0, m.count(4) - 1)), fencer = any(0, Math.max(0, m.count(1) - 1));
        if (kind == 0) {
            int set = someSet(7);
            asked("pool", x.pool(set), m.pool(set), set);
        } else if (kind < 4) {
            int what = any(0, 3);
            asked("indicator", x.indicator(pool, fencer, what), m.indicator(pool, fencer, what), pool, fencer, what);
        } else if (kind < 8) {
            int i = any(0, 6);
            asked("order", x.order(pool, i), m.order(pool, i), pool, i);
        } else if (kind < 11) {
            int bout = someBout();
            asked("hangs", x.hangs(bout), m.hangs(bout), bout);
        } else {
            boutStep();
        }
    }

    /** A text that may be read, more often than one of any signs. */
    private String someText(int depth) {
        int kind = random.nextInt(depth > 9 ? 4 : 9);
        switch (kind) {
            case 0: return Integer.toString(random.nextInt(random.nextBoolean() ? 10 : 2000000));
            case 1: case 2: case 3: return SIGNS.substring(random.nextInt(7)).substring(0, 1);
            case 4: return "(" + someText(depth + 1) + ")";
            case 5: return "-" + someText(depth + 1);
            case 6: return " " + someText(depth + 1) + " ";
            default: return someText(depth + 1) + "+-*/".charAt(random.nextInt(4)) + someText(depth + 1);
        }
    }

    private final StringBuilder waiting = new StringBuilder();
    private int waitingFor;

    private void textStep() {
        int text = any(0, 3), pool = any(0, Math.max(0, m.count(4) - 1));
        int kind = random.nextInt(30);
        if (waiting.length() > 0 && kind < 24) {
            int c = waiting.charAt(0);
            waiting.deleteCharAt(0);
            asked("write", x.write(waitingFor, c), m.write(waitingFor, c), waitingFor, c);
        } else if (kind < 4) {
            waitingFor = text;
            waiting.setLength(0);
            waiting.append(random.nextInt(9) == 0 ? "((((((((" + someText(7) : someText(4));
            asked("erase", x.erase(text), m.erase(text), text);
        } else if (kind < 6) {
            int c = random.nextBoolean() ? any(0, 127) : SIGNS.charAt(random.nextInt(SIGNS.length()));
            asked("write", x.write(text, c), m.write(text, c), text, c);
        } else if (kind < 10) {
            asked("fault", x.fault(text), m.fault(text), text);
        } else if (kind < 18) {
            int fencer = any(0, Math.max(0, m.count(1) - 1));
            asked("tells", x.tells(text, pool, fencer), m.tells(text, pool, fencer), text, pool, fencer);
        } else {
            int i = any(0, 6);
            asked("beside", x.beside(text, pool, i), m.beside(text, pool, i), text, pool, i);
        }
    }

    private void drawStep() {
        int kind = random.nextInt(17);
        int many = Math.min(30, m.count(2)), hour = 0;
        for (int i = random.nextInt(8); i >= 0 && many > 0; i--) {
            hour |= 1 << random.nextInt(many);
        }
        hour = random.nextInt(wildOneIn) == 0 ? any(0, 1 << 30) : hour;
        if (kind < 5) {
            int set = someSet(15), r = any(0, 4), i = any(0, Math.max(0, (16 >> Math.max(0, Math.min(4, r))) - 1));
            asked("ladder", x.ladder(set, r, i), m.ladder(set, r, i), set, r, i);
        } else if (kind < 9) {
            int set = someSet(12), p = any(1, 3);
            int what = random.nextBoolean() ? -1 : random.nextInt(4) == 0 ? any(0, 15) : Integer.numberOfTrailingZeros(set);
            asked("apart", x.apart(set, p, what), m.apart(set, p, what), set, p, what);
        } else if (kind < 13) {
            int bout = random.nextInt(5) == 0 ? any(0, 29) : 31 - Integer.numberOfLeadingZeros(hour);
            asked("service", x.service(hour, bout), m.service(hour, bout), hour, bout);
        } else if (kind < 14) {
            asked("serve", x.serve(hour), m.serve(hour), hour);
        } else if (kind < 15) {
            int r = any(0, 7);
            asked("hours", x.hours(r), m.hours(r), r);
        } else {
            boutStep();
        }
    }

    private void listStep() {
        int kind = random.nextInt(20);
        int r = any(0, Math.max(0, m.count(5) - 1)), f = any(0, Math.max(0, m.count(1) - 1));
        if (kind < 3) {
            int a = any(0, 2), b = any(0, 2), many = any(0, 15), bits = any(0, (1 << Math.max(1, Math.min(15, many))) - 1);
            asked("pair", x.pair(a, b, many, bits), m.pair(a, b, many, bits), a, b, many, bits);
        } else if (kind < 5) {
            int order = new int[] {12, 21, 102, 120, 201, 210}[random.nextInt(6)], what = any(-1, 17);
            order = random.nextInt(wildOneIn) == 0 ? any(0, 222) : order;
            asked("relay", x.relay(order, what), m.relay(order, what), order, what);
        } else if (kind < 6) {
            asked("bestOrder", x.bestOrder(), m.bestOrder());
        } else if (kind < 9) {
            int second = any(0, Math.max(0, m.count(5) - 1)), told = any(-1, 1), other = any(-1, 1);
            told = random.nextBoolean() && r == 0 ? 0 : told;
            asked("judged", x.judged(r, second, told, other), m.judged(r, second, told, other), r, second, told, other);
        } else if (kind < 11) {
            int what = random.nextBoolean() ? 3 : any(0, 3);
            asked("habit", x.habit(r, what), m.habit(r, what), r, what);
        } else if (kind < 14) {
            int week = any(0, random.nextBoolean() ? 120 : 999), points = any(0, 1000), known = week + random.nextInt(4);
            known = random.nextInt(wildOneIn) == 0 ? any(0, 999) : known;
            asked("result", x.result(f, week, points, known), m.result(f, week, points, known), f, week, points, known);
        } else if (kind < 15) {
            int k = any(1, 10);
            asked("counted", x.counted(k), m.counted(k), k);
        } else if (kind < 18) {
            int week = any(0, random.nextBoolean() ? 160 : 999), known = week + random.nextInt(5) - 2, what = any(0, 1);
            asked("ranking", x.ranking(f, week, known, what), m.ranking(f, week, known, what), f, week, known, what);
        } else if (kind < 19) {
            int i = any(0, 1);
            boolean keep = random.nextInt(3) > 0;
            asked(keep ? "image" : "from", keep ? x.image(i) : x.from(i), keep ? m.image(i) : m.from(i), i);
        } else {
            int what = any(0, 7);
            asked("count", x.count(what), m.count(what), what);
        }
    }

    private void makeStep() {
        int kind = random.nextInt(10);
        if (kind < 4) {
            int club = any(0, random.nextBoolean() ? 2 : 9), land = any(0, random.nextBoolean() ? 1 : 5);
            int seed = any(1, random.nextBoolean() ? 5 : 999);
            asked("fencer", x.fencer(club, land, seed), m.fencer(club, land, seed), club, land, seed);
        } else if (kind < 5) {
            int f = any(0, Math.max(0, m.count(1) - 1)), v = any(1, random.nextBoolean() ? 5 : 999);
            asked("seed", x.seed(f, v), m.seed(f, v), f, v);
        } else if (kind < 6) {
            int set = someSet(7);
            asked("pool", x.pool(set), m.pool(set), set);
        } else if (kind < 8) {
            int club = any(0, 9), land = any(0, 5);
            asked("referee", x.referee(club, land), m.referee(club, land), club, land);
        } else {
            newBout();
        }
    }
}
