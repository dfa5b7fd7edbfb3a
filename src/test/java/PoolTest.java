/** Promises 14 to 16 and 22: pool, indicator, order, hangs. */
public final class PoolTest {
    private static final Check check = new Check();

    public static void main(String[] args) {
        poolsAreRefused();
        indicators();
        orders();
        orderIsRefused();
        hanging();
        check.finish();
    }

    /** A bout of a pool that ends with these touches. */
    private static int fought(TouchLeague x, int pool, int a, int b, int first, int second) {
        int bout = x.bout(a, b, pool, 15, 1000, 0);
        for (int i = 0; i < first; i++) {
            x.event(bout, 0, 0, 1);
        }
        for (int i = 0; i < second; i++) {
            x.event(bout, 0, 1, 2);
        }
        x.end(bout);
        return bout;
    }

    private static void order(TouchLeague x, String when, int pool, int... fencers) {
        for (int i = 0; i < fencers.length; i++) {
            check.due(when + ": place " + i, x.order(pool, i), fencers[i]);
        }
        check.due(when + ": not so many", x.order(pool, fencers.length), -1);
    }

    private static void poolsAreRefused() {
        TouchLeague x = Check.withPlainFencers(8);
        long before = x.digest();
        check.refused(x, "nobody", before, x.pool(0), -2);
        check.refused(x, "one", before, x.pool(128), -2);
        check.refused(x, "eight", before, x.pool(255), -2);
        check.refused(x, "one not there", before, x.pool(257), -2);
        check.refused(x, "below 0", before, x.pool(-1), -2);
        check.refused(x, "below 0", before, x.pool(Integer.MIN_VALUE + 3), -2);
        check.due("seven", x.pool(127), 0);
        check.due("two", x.pool(129), 1);
        for (int i = 2; i < 6; i++) {
            check.due("pool " + i, x.pool(3), i);
        }
        before = x.digest();
        check.refused(x, "pool 6", before, x.pool(3), -4);
        check.refused(x, "BAD ahead of FULL", before, x.pool(1), -2);
        TouchLeague all = Check.withPlainFencers(16);
        check.due("the last fencer", all.pool(1 << 15 | 1), 0);
        check.due("beyond it", all.pool(1 << 16 | 3), -2);
    }

    private static void indicators() {
        TouchLeague x = Check.withPlainFencers(4);
        x.pool(7);
        x.pool(11);
        check.due("without any", x.indicator(0, 0, 0), 0);
        fought(x, 0, 0, 1, 5, 2);
        fought(x, 0, 2, 0, 4, 1);
        fought(x, 0, 0, 2, 3, 1);
        fought(x, 1, 0, 1, 0, 7);
        fought(x, -1, 0, 1, 0, 7);
        x.bout(0, 1, 0, 15, 1000, 0);
        x.event(5, 0, 1, 5);
        int torn = fought(x, 0, 0, 1, 0, 9);
        x.tear(torn, true);
        check.due("wins, cut", x.indicator(0, 0, 0), 666);
        check.due("given less received", x.indicator(0, 0, 1), 2);
        check.due("given", x.indicator(0, 0, 2), 9);
        check.due("bouts", x.indicator(0, 0, 3), 3);
        check.due("of another", x.indicator(0, 1, 1), -3);
        check.due("of another pool", x.indicator(1, 1, 0), 1000);
        x.tear(torn, false);
        check.due("void no more", x.indicator(0, 0, 3), 4);
        check.due("and its touches", x.indicator(0, 0, 1), -7);
        int given = x.bout(0, 1, 0, 15, 1000, 1);
        x.walkover(given, 0);
        check.due("a walkover is won", x.indicator(0, 0, 0), 600);
        check.due("without touches", x.indicator(0, 0, 2), 9);
        check.due("not in it", x.indicator(0, 3, 0), -100000);
        check.due("no such pool", x.indicator(2, 0, 0), -100000);
        check.due("pool -1", x.indicator(-1, 0, 0), -100000);
        check.due("no such fencer", x.indicator(0, 4, 0), -100000);
        check.due("fencer -1", x.indicator(0, -1, 0), -100000);
        check.due("fencer 32", x.indicator(0, 32, 0), -100000);
        check.due("what 4", x.indicator(0, 0, 4), -100000);
        check.due("what -1", x.indicator(0, 0, -1), -100000);
    }

    private static void orders() {
        TouchLeague x = Check.withFencers(0, 0, 9, 0, 0, 3, 0, 0, 9, 0, 0, 3);
        x.pool(15);
        order(x, "by seeds, then numbers", 0, 1, 3, 0, 2);
        fought(x, 0, 0, 1, 1, 0);
        fought(x, 0, 2, 3, 1, 0);
        order(x, "by wins", 0, 0, 2, 1, 3);
        fought(x, 0, 0, 1, 1, 0);
        fought(x, 0, 2, 3, 2, 0);
        order(x, "by given less received", 0, 2, 0, 1, 3);
        TouchLeague y = Check.withPlainFencers(4);
        y.pool(15);
        fought(y, 0, 0, 1, 1, 0);
        fought(y, 0, 2, 3, 6, 5);
        order(y, "by given", 0, 2, 0, 3, 1);
    }

    private static void orderIsRefused() {
        TouchLeague x = Check.withPlainFencers(3);
        x.pool(5);
        check.due("no such pool", x.order(1, 0), -2);
        check.due("pool -1", x.order(-1, 0), -2);
        check.due("i -1", x.order(0, -1), -2);
        check.due("the last", x.order(0, 1), 2);
        check.due("not so many", x.order(0, 2), -1);
        check.due("far from so many", x.order(0, Integer.MAX_VALUE), -1);
    }

    private static void hanging() {
        TouchLeague x = Check.withPlainFencers(4);
        x.pool(7);
        int upset = fought(x, 0, 2, 1, 1, 0);
        check.due("who would change places", x.hangs(upset), 7);
        int alike = fought(x, 0, 2, 0, 1, 0);
        order(x, "with both", 0, 2, 0, 1);
        check.due("without the second the same", x.hangs(alike), 0);
        check.due("without the first 1 is ahead of 0", x.hangs(upset), 3);
        x.tear(alike, true);
        check.due("void: nothing hangs on it", x.hangs(alike), 0);
        check.due("it is as if it were none", x.hangs(upset), 7);
        check.due("it stays void", x.about(alike, 8), 1);
        check.due("the other stays as it was", x.about(upset, 8), 0);
        int open = x.bout(0, 1, 0, 5, 5, 0);
        check.due("not over", x.hangs(open), 0);
        int outside = fought(x, -1, 0, 1, 1, 0);
        check.due("of no pool", x.hangs(outside), -3);
        check.due("no such bout", x.hangs(outside + 1), -2);
        check.due("bout -1", x.hangs(-1), -2);
    }
}
