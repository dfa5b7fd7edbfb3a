/** Promises 6 to 13: fencer, seed, bout, event, end, walkover, tear, about. */
public final class BoutTest {
    private static final int TOUCH = 0, BOTH = 1, YELLOW = 2, RED = 3, BLACK = 4, HURT = 5;
    private static final Check check = new Check();

    public static void main(String[] args) {
        fencers();
        seeds();
        boutsAreRefused();
        boutsFull();
        eventsAreRefused();
        eventsFull();
        touches();
        cards();
        blackAndHurt();
        timeDecides();
        extraTime();
        ends();
        walkovers();
        voids();
        check.finish();
    }

    private static TouchLeague twoWithBout(int n, int limit, int toss) {
        TouchLeague x = Check.withPlainFencers(2);
        check.due("bout", x.bout(0, 1, -1, n, limit, toss), 0);
        return x;
    }

    private static void about(TouchLeague x, String when, int first, int second, int over, int won) {
        check.due(when + ": touches of the first", x.about(0, 0), first);
        check.due(when + ": touches of the second", x.about(0, 1), second);
        check.due(when + ": over", x.about(0, 2), over);
        check.due(when + ": won", x.about(0, 3), won);
    }

    private static void fencers() {
        TouchLeague x = new TouchLeague();
        long before = x.digest();
        check.refused(x, "club -1", before, x.fencer(-1, 0, 1), -2);
        check.refused(x, "club 10", before, x.fencer(10, 0, 1), -2);
        check.refused(x, "land -1", before, x.fencer(0, -1, 1), -2);
        check.refused(x, "land 6", before, x.fencer(0, 6, 1), -2);
        check.refused(x, "seed 0", before, x.fencer(0, 0, 0), -2);
        check.refused(x, "seed 1000", before, x.fencer(0, 0, 1000), -2);
        check.due("the edges", x.fencer(9, 5, 999), 0);
        for (int i = 1; i < 16; i++) {
            check.due("fencer " + i, x.fencer(0, 0, 1), i);
        }
        before = x.digest();
        check.refused(x, "fencer 16", before, x.fencer(0, 0, 1), -4);
        check.refused(x, "BAD ahead of FULL", before, x.fencer(0, 0, 0), -2);
    }

    private static void seeds() {
        TouchLeague x = Check.withFencers(0, 0, 7);
        check.due("what it was", x.seed(0, 999), 7);
        check.due("what it was then", x.seed(0, 1), 999);
        long before = x.digest();
        check.refused(x, "no such fencer", before, x.seed(1, 5), -2);
        check.refused(x, "fencer -1", before, x.seed(-1, 5), -2);
        check.refused(x, "seed 0", before, x.seed(0, 0), -2);
        check.refused(x, "seed 1000", before, x.seed(0, 1000), -2);
        check.due("unchanged", x.seed(0, 2), 1);
    }

    private static void boutsAreRefused() {
        TouchLeague x = Check.withPlainFencers(3);
        check.due("pool", x.pool(3), 0);
        long before = x.digest();
        check.refused(x, "alike", before, x.bout(1, 1, -1, 5, 100, 0), -2);
        check.refused(x, "first not there", before, x.bout(3, 1, -1, 5, 100, 0), -2);
        check.refused(x, "second not there", before, x.bout(1, -1, -1, 5, 100, 0), -2);
        check.refused(x, "pool not there", before, x.bout(0, 1, 1, 5, 100, 0), -2);
        check.refused(x, "pool -2", before, x.bout(0, 1, -2, 5, 100, 0), -2);
        check.refused(x, "first not in the pool", before, x.bout(2, 1, 0, 5, 100, 0), -2);
        check.refused(x, "second not in the pool", before, x.bout(1, 2, 0, 5, 100, 0), -2);
        check.refused(x, "n 0", before, x.bout(0, 1, 0, 0, 100, 0), -2);
        check.refused(x, "n 16", before, x.bout(0, 1, 0, 16, 100, 0), -2);
        check.refused(x, "limit 0", before, x.bout(0, 1, 0, 5, 0, 0), -2);
        check.refused(x, "limit 10000", before, x.bout(0, 1, 0, 5, 10000, 0), -2);
        check.refused(x, "toss 2", before, x.bout(0, 1, 0, 5, 100, 2), -2);
        check.refused(x, "toss -1", before, x.bout(0, 1, 0, 5, 100, -1), -2);
        check.due("the least", x.bout(0, 1, 0, 1, 1, 0), 0);
        check.due("the most", x.bout(2, 1, -1, 15, 9999, 1), 1);
        int[] fresh = {0, 0, 0, -1, 0, 0, 0, 0, 0, 0};
        for (int what = 0; what < 10; what++) {
            check.due("about(1, " + what + ") of a new one", x.about(1, what), fresh[what]);
        }
        check.due("what -1", x.about(1, -1), -2);
        check.due("what 10", x.about(1, 10), -2);
        check.due("bout 2", x.about(2, 0), -2);
        check.due("bout -1", x.about(-1, 0), -2);
    }

    private static void boutsFull() {
        TouchLeague x = Check.withPlainFencers(2);
        for (int i = 0; i < 120; i++) {
            check.due("bout " + i, x.bout(0, 1, -1, 5, 100, 0), i);
        }
        long before = x.digest();
        check.refused(x, "bout 120", before, x.bout(0, 1, -1, 5, 100, 0), -4);
        check.refused(x, "BAD ahead of FULL", before, x.bout(0, 0, -1, 5, 100, 0), -2);
        check.due("the last is one", x.event(119, TOUCH, 0, 1), 1);
    }

    private static void eventsAreRefused() {
        TouchLeague x = twoWithBout(2, 100, 0);
        check.due("a touch", x.event(0, TOUCH, 0, 50), 1);
        long before = x.digest();
        check.refused(x, "no such bout", before, x.event(1, TOUCH, 0, 60), -2);
        check.refused(x, "bout -1", before, x.event(-1, TOUCH, 0, 60), -2);
        check.refused(x, "sort 6", before, x.event(0, 6, 0, 60), -2);
        check.refused(x, "sort -1", before, x.event(0, -1, 0, 60), -2);
        check.refused(x, "who 2", before, x.event(0, TOUCH, 2, 60), -2);
        check.refused(x, "who -1", before, x.event(0, HURT, -1, 60), -2);
        check.refused(x, "a time below the last", before, x.event(0, TOUCH, 0, 49), -2);
        check.refused(x, "a time above 99999", before, x.event(0, TOUCH, 0, 100000), -2);
        check.due("of both, who is not looked at", x.event(0, BOTH, 77, 50), 2);
        before = x.digest();
        check.refused(x, "it is over", before, x.event(0, TOUCH, 0, 60), -3);
        check.refused(x, "BAD ahead of NO", before, x.event(0, TOUCH, 0, 49), -2);
        check.due("the last time there is", twoWithBout(2, 100, 0).event(0, TOUCH, 0, 99999), 2);
        check.due("time -1", twoWithBout(2, 100, 0).event(0, TOUCH, 0, -1), -2);
        check.due("time 0", twoWithBout(2, 100, 0).event(0, TOUCH, 0, 0), 1);
    }

    private static void eventsFull() {
        TouchLeague x = twoWithBout(1, 100, 1);
        for (int i = 0; i < 40; i++) {
            check.due("event " + i, x.event(0, BOTH, 0, 5), 1);
        }
        check.due("events", x.about(0, 9), 40);
        long before = x.digest();
        check.refused(x, "event 40", before, x.event(0, TOUCH, 0, 5), -4);
        check.refused(x, "BAD ahead of FULL", before, x.event(0, TOUCH, 0, 4), -2);
        check.due("it can be ended", x.end(0), 1);
        check.due("NO ahead of FULL", x.event(0, TOUCH, 0, 5), -3);
    }

    private static void touches() {
        TouchLeague x = twoWithBout(2, 100, 0);
        check.due("1 to 0", x.event(0, TOUCH, 1, 10), 1);
        about(x, "1 to 0", 0, 1, 0, -1);
        check.due("2 to 1 by both", x.event(0, BOTH, 0, 20), 2);
        about(x, "by both", 1, 2, 1, 1);
        x = twoWithBout(2, 100, 0);
        check.due("both", x.event(0, BOTH, 0, 10), 1);
        about(x, "both", 1, 1, 0, -1);
        check.due("both would have n", x.event(0, BOTH, 0, 11), 1);
        about(x, "counts for neither", 1, 1, 0, -1);
        check.due("it is an event", x.about(0, 9), 2);
        check.due("n at the limit", x.event(0, TOUCH, 0, 100), 2);
        about(x, "n at the limit", 2, 1, 1, 0);
    }

    private static void cards() {
        TouchLeague x = twoWithBout(3, 100, 0);
        check.due("a red gives a touch", x.event(0, RED, 0, 1), 1);
        about(x, "a red", 0, 1, 0, -1);
        check.due("a yellow behind a red is one", x.event(0, YELLOW, 0, 2), 1);
        check.due("yellows of the first", x.about(0, 4), 1);
        check.due("reds of the first", x.about(0, 6), 1);
        about(x, "a yellow", 0, 1, 0, -1);
        check.due("the next yellow is a red", x.event(0, YELLOW, 0, 3), 1);
        check.due("yellows stay", x.about(0, 4), 1);
        check.due("reds are two", x.about(0, 6), 2);
        about(x, "two reds", 0, 2, 0, -1);
        check.due("the other one's first", x.event(0, YELLOW, 1, 3), 1);
        check.due("yellows of the second", x.about(0, 5), 1);
        check.due("reds of the second", x.about(0, 7), 0);
        check.due("and every next one", x.event(0, YELLOW, 0, 4), 2);
        about(x, "three reds", 0, 3, 1, 1);
        check.due("events", x.about(0, 9), 5);
    }

    private static void blackAndHurt() {
        TouchLeague x = twoWithBout(3, 100, 0);
        x.event(0, TOUCH, 0, 1);
        check.due("black", x.event(0, BLACK, 0, 2), 2);
        about(x, "black", 1, 0, 1, 1);
        check.due("no red", x.about(0, 6), 0);
        x = twoWithBout(3, 100, 0);
        check.due("hurt", x.event(0, HURT, 1, 100), 2);
        about(x, "hurt", 0, 0, 1, 0);
    }

    private static void timeDecides() {
        TouchLeague x = twoWithBout(5, 100, 0);
        x.event(0, TOUCH, 0, 99);
        check.due("with more, at the limit", x.event(0, TOUCH, 1, 100), 1);
        about(x, "it counts", 1, 1, 0, -1);
        x = twoWithBout(5, 100, 0);
        x.event(0, TOUCH, 1, 100);
        about(x, "at the limit", 0, 1, 0, -1);
        check.due("the first time told above it", x.event(0, TOUCH, 0, 101), 2);
        about(x, "who has more at the limit", 0, 1, 1, 1);
        check.due("it is an event", x.about(0, 9), 2);
        x = twoWithBout(5, 100, 1);
        x.event(0, RED, 1, 100);
        check.due("black, too late", x.event(0, BLACK, 0, 101), 2);
        about(x, "black, too late", 1, 0, 1, 0);
        x = twoWithBout(5, 100, 1);
        x.event(0, TOUCH, 1, 100);
        check.due("a card, too late", x.event(0, RED, 0, 300), 2);
        check.due("that card", x.about(0, 6), 0);
        about(x, "a card, too late", 0, 1, 1, 1);
    }

    private static void extraTime() {
        TouchLeague x = twoWithBout(5, 100, 1);
        check.due("both", x.event(0, BOTH, 0, 100), 1);
        check.due("both above the limit", x.event(0, BOTH, 0, 101), 1);
        check.due("a yellow", x.event(0, YELLOW, 1, 102), 1);
        about(x, "counts for neither", 1, 1, 0, -1);
        check.due("the first single touch", x.event(0, TOUCH, 0, 1100), 2);
        about(x, "it counts", 2, 1, 1, 0);
        x = twoWithBout(5, 100, 1);
        check.due("a red", x.event(0, RED, 1, 101), 2);
        about(x, "a red's, too", 1, 0, 1, 0);
        x = twoWithBout(5, 100, 0);
        check.due("a yellow in time", x.event(0, YELLOW, 0, 99), 1);
        check.due("a yellow that is a red", x.event(0, YELLOW, 0, 101), 2);
        about(x, "a yellow that is a red", 0, 1, 1, 1);
        x = twoWithBout(5, 100, 1);
        check.due("beyond it", x.event(0, TOUCH, 0, 1101), 2);
        about(x, "the toss", 0, 0, 1, 1);
        x = twoWithBout(5, 100, 0);
        check.due("beyond it", x.event(0, BOTH, 0, 5000), 2);
        about(x, "the toss", 0, 0, 1, 0);
        x = twoWithBout(5, 100, 0);
        check.due("hurt", x.event(0, HURT, 0, 1100), 2);
        about(x, "hurt in extra time", 0, 0, 1, 1);
    }

    private static void ends() {
        TouchLeague x = twoWithBout(5, 100, 1);
        check.due("by the toss", x.end(0), 1);
        about(x, "by the toss", 0, 0, 1, 1);
        long before = x.digest();
        check.refused(x, "it is over", before, x.end(0), -3);
        check.refused(x, "no such bout", before, x.end(1), -2);
        check.refused(x, "bout -1", before, x.end(-1), -2);
        x = twoWithBout(5, 100, 1);
        x.event(0, TOUCH, 0, 10);
        check.due("who has more", x.end(0), 0);
        check.due("no event", x.about(0, 9), 1);
        x = twoWithBout(5, 100, 0);
        x.event(0, YELLOW, 0, 500);
        check.due("in extra time", x.end(0), 0);
    }

    private static void walkovers() {
        TouchLeague x = twoWithBout(5, 100, 0);
        long before = x.digest();
        check.refused(x, "who 2", before, x.walkover(0, 2), -2);
        check.refused(x, "who -1", before, x.walkover(0, -1), -2);
        check.refused(x, "no such bout", before, x.walkover(1, 0), -2);
        check.due("walkover", x.walkover(0, 1), 1);
        about(x, "walkover", 0, 0, 1, 1);
        before = x.digest();
        check.refused(x, "it is over", before, x.walkover(0, 1), -3);
        check.refused(x, "BAD ahead of NO", before, x.walkover(0, 2), -2);
        check.refused(x, "no event behind it", before, x.event(0, TOUCH, 0, 5), -3);
        x = twoWithBout(5, 100, 0);
        x.event(0, YELLOW, 0, 5);
        check.refused(x, "it has events", x.digest(), x.walkover(0, 1), -3);
    }

    private static void voids() {
        TouchLeague x = twoWithBout(1, 100, 0);
        long before = x.digest();
        check.refused(x, "it is not void", before, x.tear(0, false), -3);
        check.refused(x, "no such bout", before, x.tear(1, true), -2);
        check.refused(x, "bout -1", before, x.tear(-1, true), -2);
        check.due("torn", x.tear(0, true), 1);
        check.due("void", x.about(0, 8), 1);
        before = x.digest();
        check.refused(x, "it is void", before, x.tear(0, true), -3);
        check.due("it may go on", x.event(0, TOUCH, 0, 5), 2);
        check.due("over, but void", x.count(3), 0);
        check.due("mended", x.tear(0, false), 1);
        check.due("void no more", x.about(0, 8), 0);
        check.due("over", x.count(3), 1);
    }
}
