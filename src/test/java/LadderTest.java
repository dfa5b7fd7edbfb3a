/** Promises 23 and 24: ladder, apart. */
public final class LadderTest {
    private static final int NOBODY = -1, NOT_TOLD = -5;
    private static final Check check = new Check();

    public static void main(String[] args) {
        tables();
        seedsOrderTheTable();
        roundsGoOn();
        whichBoutTells();
        eitherOrder();
        ladderIsRefused();
        poolsApart();
        rowsOfPools();
        apartIsRefused();
        check.finish();
    }

    private static void stand(TouchLeague x, String when, int fencers, int round, int... who) {
        for (int i = 0; i < who.length; i++) {
            check.due(when + ": place " + i, x.ladder(fencers, round, i), who[i]);
        }
        check.due(when + ": no more places", x.ladder(fencers, round, who.length), -2);
    }

    private static void tables() {
        TouchLeague x = Check.withPlainFencers(16);
        stand(x, "two", 3, 0, 0, 1);
        stand(x, "three", 7, 0, 0, NOBODY, 2, 1);
        stand(x, "four", 15, 0, 0, 3, 2, 1);
        stand(x, "six", 63, 0, 0, NOBODY, 4, 3, 2, 5, NOBODY, 1);
        stand(x, "eight", 255, 0, 0, 7, 4, 3, 2, 5, 6, 1);
        stand(x, "sixteen", 65535, 0, 0, 15, 8, 7, 4, 11, 12, 3, 2, 13, 10, 5, 6, 9, 14, 1);
        stand(x, "nine", 511, 0, 0, -1, 8, 7, 4, -1, -1, 3, 2, -1, -1, 5, 6, -1, -1, 1);
    }

    private static void seedsOrderTheTable() {
        TouchLeague x = Check.withFencers(0, 0, 9, 0, 0, 5, 0, 0, 9, 0, 0, 1);
        stand(x, "by seeds, then numbers", 15, 0, 3, 2, 0, 1);
        stand(x, "only those of the set", 13, 0, 3, NOBODY, 2, 0);
        x.seed(2, 2);
        stand(x, "a new seed", 13, 0, 3, NOBODY, 0, 2);
    }

    private static int beats(TouchLeague x, int winner, int loser, int pool) {
        int bout = x.bout(loser, winner, pool, 5, 5, 0);
        x.walkover(bout, 1);
        return bout;
    }

    private static void roundsGoOn() {
        TouchLeague x = Check.withPlainFencers(6);
        stand(x, "those without another go on", 63, 1, 0, NOT_TOLD, NOT_TOLD, 1);
        stand(x, "they wait", 63, 2, NOT_TOLD, NOT_TOLD);
        stand(x, "they wait", 63, 3, NOT_TOLD);
        beats(x, 4, 3, -1);
        stand(x, "one told", 63, 1, 0, 4, NOT_TOLD, 1);
        beats(x, 4, 0, -1);
        beats(x, 1, 2, -1);
        stand(x, "the last", 63, 2, 4, NOT_TOLD);
        beats(x, 5, 2, -1);
        stand(x, "a bout of others tells nothing", 63, 1, 0, 4, 5, 1);
        int last = beats(x, 1, 5, -1);
        stand(x, "both", 63, 2, 4, 1);
        beats(x, 1, 4, -1);
        stand(x, "the first of all", 63, 3, 1);
        x.tear(last, true);
        stand(x, "void", 63, 3, NOT_TOLD);
    }

    private static void whichBoutTells() {
        TouchLeague x = Check.withPlainFencers(2);
        x.pool(3);
        beats(x, 1, 0, 0);
        check.due("not one of a pool", x.ladder(3, 1, 0), NOT_TOLD);
        beats(x, 1, 0, -1);
        check.due("one of no pool", x.ladder(3, 1, 0), 1);
        int latest = beats(x, 0, 1, -1);
        check.due("the latest", x.ladder(3, 1, 0), 0);
        x.bout(0, 1, -1, 5, 5, 0);
        check.due("not one that goes on", x.ladder(3, 1, 0), 0);
        x.tear(latest, true);
        check.due("not a void one", x.ladder(3, 1, 0), 1);
    }

    /** The winner may be the first or the second of the bout, and the upper or the lower one of the meeting. */
    private static void eitherOrder() {
        for (int a = 0; a <= 1; a++) {
            for (int who = 0; who <= 1; who++) {
                int winner = who == 0 ? a : 1 - a;
                String told = "bout of " + a + " and " + (1 - a) + " for " + who;
                TouchLeague x = Check.withPlainFencers(2);
                x.bout(a, 1 - a, -1, 1, 5, 1 - who);
                check.due(told + ": not yet", x.ladder(3, 1, 0), NOT_TOLD);
                x.event(0, 0, who, 1);
                check.due(told + ": by a touch", x.ladder(3, 1, 0), winner);
                x.bout(a, 1 - a, -1, 5, 5, 1 - who);
                x.end(1);
                check.due(told + ": by the toss of the other one", x.ladder(3, 1, 0), 1 - winner);
                x.bout(a, 1 - a, -1, 5, 5, 1 - who);
                x.walkover(2, who);
                check.due(told + ": by a walkover", x.ladder(3, 1, 0), winner);
                x.bout(1 - a, a, -1, 5, 5, who);
                x.event(3, 4, 1 - who, 1);
                check.due(told + ": by black, the other way round", x.ladder(3, 1, 0), 1 - winner);
                x.tear(3, true);
                check.due(told + ": that one is void", x.ladder(3, 1, 0), winner);
            }
        }
    }

    private static void ladderIsRefused() {
        TouchLeague x = Check.withPlainFencers(5);
        check.due("nobody", x.ladder(0, 0, 0), -2);
        check.due("one", x.ladder(2, 0, 0), -2);
        check.due("one not there", x.ladder(33, 0, 0), -2);
        check.due("below 0", x.ladder(-1, 0, 0), -2);
        check.due("round -1", x.ladder(31, -1, 0), -2);
        check.due("round 3", x.ladder(31, 3, 0), NOT_TOLD);
        check.due("round 4", x.ladder(31, 4, 0), -2);
        check.due("round 32", x.ladder(31, 32, 0), -2);
        check.due("round 2 of two", x.ladder(3, 2, 0), -2);
        check.due("place -1", x.ladder(31, 0, -1), -2);
        check.due("place 7", x.ladder(31, 0, 7), 1);
        check.due("place 8", x.ladder(31, 0, 8), -2);
        check.due("place 2 of round 2", x.ladder(31, 2, 2), -2);
    }

    private static void pools(TouchLeague x, String when, int fencers, int p, int clashes, int... pools) {
        check.due(when + ": clashes", x.apart(fencers, p, -1), clashes);
        int at = 0;
        for (int fencer = 0; fencer < 16; fencer++) {
            if ((fencers >> fencer & 1) == 1) {
                check.due(when + ": pool of " + fencer, x.apart(fencers, p, fencer), pools[at]);
                at++;
            }
        }
    }

    private static void poolsApart() {
        TouchLeague x = Check.withFencers(0, 0, 1, 1, 1, 2, 1, 2, 3, 0, 3, 4);
        pools(x, "clubs apart", 15, 2, 0, 0, 1, 0, 1);
        x = Check.withFencers(0, 0, 1, 1, 1, 2, 0, 2, 3, 1, 3, 4);
        pools(x, "clubs apart, turned", 15, 2, 0, 0, 1, 1, 0);
        pools(x, "all in one", 15, 1, 6, 0, 0, 0, 0);
        pools(x, "pools to spare", 3, 3, 0, 0, 1);
        x = Check.withFencers(0, 0, 1, 1, 1, 2, 2, 0, 3, 3, 1, 4);
        pools(x, "lands apart", 15, 2, 0, 0, 1, 1, 0);
        pools(x, "one land counts 1", 15, 1, 2, 0, 0, 0, 0);
        x = Check.withFencers(0, 0, 1, 0, 0, 2);
        pools(x, "a club of one land counts 3", 3, 1, 3, 0, 0);
        x = Check.withFencers(4, 4, 3, 5, 5, 2, 4, 1, 1, 5, 2, 2);
        pools(x, "by seeds, then numbers", 15, 2, 0, 1, 1, 0, 0);
    }

    private static void rowsOfPools() {
        TouchLeague x = Check.withFencers(0, 0, 1, 1, 1, 2, 2, 2, 3, 0, 3, 4, 1, 4, 5, 2, 5, 6, 0, 3, 7);
        pools(x, "three to a row, the last short", 127, 3, 0, 0, 1, 2, 1, 2, 0, 2);
        x = Check.withFencers(0, 0, 1, 1, 0, 2, 0, 0, 3, 0, 0, 4, 9, 5, 5, 8, 5, 6);
        pools(x, "a row gives each pool one", 63, 2, 4, 0, 1, 0, 1, 0, 1);
    }

    private static void apartIsRefused() {
        TouchLeague x = Check.withPlainFencers(13);
        check.due("one", x.apart(1, 1, -1), -2);
        check.due("twelve", x.apart(4095, 3, -1), 0);
        check.due("thirteen", x.apart(8191, 3, -1), -2);
        check.due("one not there", x.apart(1 | 1 << 13, 1, -1), -2);
        check.due("below 0", x.apart(-1, 1, -1), -2);
        check.due("p 0", x.apart(3, 0, -1), -2);
        check.due("p 4", x.apart(3, 4, -1), -2);
        check.due("what -2", x.apart(3, 1, -2), -2);
        check.due("not one of them", x.apart(3, 1, 2), -2);
        check.due("no such fencer", x.apart(3, 1, 32), -2);
    }
}
