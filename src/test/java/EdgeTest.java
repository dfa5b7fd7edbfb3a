/**
 * The values just inside and just behind the bounds that the Terms name, the least and the greatest that is taken, the
 * empty and the full. What is refused beyond these stands in RefusalTest.
 */
public final class EdgeTest {
    private static final int TOUCH = 0, BOTH = 1, YELLOW = 2, RED = 3, BLACK = 4, HURT = 5;
    private static final Check check = new Check();

    public static void main(String[] args) {
        phraseAtItsGreatest();
        oldActsAreGone();
        paceOfRipostes();
        greatestNumbers();
        touchesToTheEnd();
        timesAtTheLimit();
        cardsAtTheLimit();
        boutsWithNothing();
        fortyEvents();
        voidIsAsNone();
        poolsOfTwoAndSeven();
        winsAreCut();
        longestTexts();
        textsBehindFaults();
        longsWrap();
        besideFarApart();
        laddersOfEachSize();
        leastAndMostApart();
        emptyAndFullHours();
        relaysAtTheirEnds();
        leastNotes();
        weeksAtTheEnds();
        fullTables();
        imagesOfNothingAndOfAll();
        check.finish();
    }

    private static TouchLeague acts(int... acts) {
        TouchLeague x = new TouchLeague();
        for (int i = 0; i + 2 < acts.length; i += 3) {
            check.due("act " + i / 3, x.act(acts[i], acts[i + 1], acts[i + 2]), i / 3 + 1);
        }
        return x;
    }

    private static TouchLeague oneBout(int n, int limit, int toss) {
        TouchLeague x = Check.withPlainFencers(2);
        check.due("bout", x.bout(0, 1, -1, n, limit, toss), 0);
        return x;
    }

    private static void stands(TouchLeague x, String when, int first, int second, int won) {
        check.due(when + ": touches of the first", x.about(0, 0), first);
        check.due(when + ": touches of the second", x.about(0, 1), second);
        check.due(when + ": over", x.about(0, 2), won == -1 ? 0 : 1);
        check.due(when + ": won", x.about(0, 3), won);
    }

    // ---- 1: phrases

    private static void phraseAtItsGreatest() {
        TouchLeague x = new TouchLeague();
        check.due("an act at the least time", x.act(0, 0, 0), 1);
        for (int i = 2; i <= 19; i++) {
            check.due("act " + i, x.act(1, 4, i < 19 ? 0 : 9999), i);
        }
        check.due("act 20 at the greatest time", x.act(0, 3, 9999), 20);
        check.due("the least time, that too", x.line(0, 0), 0);
        check.due("ahead of the greatest", x.line(1, 9998), 0);
        check.due("the greatest time, that too", x.line(1, 9999), -1);
        check.due("the last act counts", x.phrase(), 20);
        check.due("twenty go again", x.act(0, 0, 0), 1);
    }

    /** Asked in between, so that nothing of an answer may stay either. */
    private static void oldActsAreGone() {
        TouchLeague x = acts(0, 0, 5, 1, 4, 6, 0, 4, 7);
        check.due("both lamps", x.touch(2), 2);
        check.due("the first has it", x.line(0, 5), 0);
        x.phrase();
        check.due("an empty phrase", x.touch(2), -1);
        check.due("an empty phrase's line", x.line(0, 9999), -1);
        check.due("anew", x.act(1, 0, 5), 1);
        check.due("the old attack at that time is none", x.line(0, 5), 1);
        check.due("the old lamps are out", x.touch(2), -1);
        check.due("a lamp", x.act(0, 4, 6), 2);
        check.due("it is alone", x.touch(2), 0);
        x = acts(0, 0, 5, 1, 0, 5);
        check.due("shut", x.line(0, 5), -1);
        x.phrase();
        x.act(0, 0, 5);
        check.due("shut no more in another phrase", x.line(0, 5), 0);
        x = acts(0, 0, 5, 1, 1, 6);
        check.due("parried", x.line(0, 6), -1);
        x.phrase();
        x.act(1, 2, 7);
        check.due("no riposte for a parry of another phrase", x.line(0, 7), -1);
    }

    private static void paceOfRipostes() {
        int[] foil = {0, 0, 0, 1, 1, 10, 0, 0, 20, 1, 1, 400, 1, 2, 700};
        check.due("300 behind the later parry", acts(foil).line(0, 700), 1);
        foil[14] = 701;
        check.due("301 behind the later parry", acts(foil).line(0, 701), -1);
        int[] sabre = {0, 0, 0, 1, 1, 10, 0, 0, 20, 1, 1, 400, 1, 2, 600};
        check.due("200 behind the later parry", acts(sabre).line(1, 600), 1);
        sabre[14] = 601;
        check.due("201 behind the later parry", acts(sabre).line(1, 601), -1);
        check.due("a parry of nothing is none", acts(0, 0, 0, 1, 1, 10, 1, 1, 200, 1, 2, 311).line(0, 311), -1);
        check.due("at the parry's own time", acts(0, 0, 9999, 1, 1, 9999, 1, 2, 9999).line(1, 9999), 1);
        check.due("the second lamp's line is not asked", acts(0, 4, 0, 1, 0, 1, 1, 4, 300).touch(0), -1);
        check.due("both may riposte", acts(0, 0, 0, 1, 1, 1, 0, 0, 2, 1, 1, 3, 1, 2, 4, 0, 1, 5, 0, 2, 6).line(1, 6), 0);
        int[] second = {300, 170, 40};
        for (int weapon = 0; weapon <= 2; weapon++) {
            int first = 9999 - second[weapon];
            check.due("the last lamp there can be", acts(1, 4, first, 0, 4, 9999).touch(weapon), weapon == 2 ? 2 : -1);
            check.due("too late for it", acts(1, 4, first - 1, 0, 4, 9999).touch(weapon), 1);
            check.due("its first light counts", acts(1, 4, 0, 1, 4, second[weapon], 0, 4, second[weapon] + 1).touch(weapon), 1);
        }
    }

    // ---- 2: fencers, bouts

    private static void greatestNumbers() {
        TouchLeague x = new TouchLeague();
        for (int i = 0; i < 16; i++) {
            check.due("fencer " + i, x.fencer(i % 10, i % 6, i == 15 ? 999 : 1), i);
        }
        check.due("the last one's seed", x.seed(15, 1), 999);
        check.due("the least seed", x.seed(15, 999), 1);
        for (int i = 0; i < 6; i++) {
            check.due("pool " + i, x.pool(1 << 15 | 1 << i), i);
        }
        check.due("of the last pool", x.bout(15, 5, 5, 15, 9999, 1), 0);
        check.due("of the first pool", x.bout(0, 15, 0, 1, 1, 0), 1);
        check.due("of no pool", x.bout(15, 14, -1, 15, 9999, 1), 2);
        for (int i = 3; i < 120; i++) {
            check.due("bout " + i, x.bout(15, 5, 5, 1, 1, i % 2), i);
        }
        check.due("a touch in the last bout", x.event(119, TOUCH, 1, 1), 2);
        check.due("the last bout", x.about(119, 3), 1);
        check.due("events of the last bout", x.about(119, 9), 1);
        check.due("a walkover in the one ahead of it", x.walkover(118, 1), 1);
        check.due("the one ahead of that is ended", x.end(117), 1);
        check.due("it is torn", x.tear(117, true), 1);
        check.due("those that stand", x.indicator(5, 15, 3), 2);
        check.due("of the last pool the first", x.order(5, 0), 5);
        check.due("it hangs on the last bout no more", x.hangs(119), 0);
    }

    private static void touchesToTheEnd() {
        TouchLeague x = oneBout(15, 9999, 0);
        for (int i = 1; i < 15; i++) {
            check.due("touch " + i, x.event(0, TOUCH, 1, 0), 1);
        }
        check.due("touch 15", x.event(0, TOUCH, 1, 0), 2);
        stands(x, "fifteen", 0, 15, 1);
        x = oneBout(1, 1, 1);
        check.due("both would have one", x.event(0, BOTH, 0, 1), 1);
        stands(x, "neither has", 0, 0, -1);
        check.due("one is enough", x.event(0, TOUCH, 0, 1), 2);
        stands(x, "one", 1, 0, 0);
        x = oneBout(1, 1, 0);
        check.due("a red is enough", x.event(0, RED, 0, 0), 2);
        stands(x, "a red", 0, 1, 1);
        x = oneBout(2, 9, 0);
        x.event(0, TOUCH, 0, 1);
        check.due("one of both has n by it", x.event(0, BOTH, 0, 1), 2);
        stands(x, "by both", 2, 1, 0);
        x = oneBout(15, 9999, 0);
        for (int i = 1; i < 15; i++) {
            x.event(0, BOTH, 0, i);
        }
        stands(x, "fourteen of both", 14, 14, -1);
        check.due("both would have fifteen", x.event(0, BOTH, 0, 15), 1);
        stands(x, "it counts for neither", 14, 14, -1);
    }

    /** With the least limit and the greatest one: at it, behind it, 1000 behind it, 1001 behind it. */
    private static void timesAtTheLimit() {
        for (int limit : new int[] {1, 9999}) {
            TouchLeague x = oneBout(5, limit, 1);
            check.due("a touch at the limit", x.event(0, TOUCH, 0, limit), 1);
            stands(x, "at the limit", 1, 0, -1);
            check.due("the other one's, behind it", x.event(0, TOUCH, 1, limit + 1), 2);
            stands(x, "behind the limit", 1, 0, 0);
            x = oneBout(5, limit, 1);
            check.due("alike: the first single one behind it", x.event(0, TOUCH, 0, limit + 1), 2);
            stands(x, "the first single one", 1, 0, 0);
            x = oneBout(5, limit, 1);
            check.due("both, 1000 behind it", x.event(0, BOTH, 0, limit + 1000), 1);
            stands(x, "for neither", 0, 0, -1);
            check.due("a single one, 1000 behind it", x.event(0, TOUCH, 0, limit + 1000), 2);
            stands(x, "1000 behind", 1, 0, 0);
            for (int toss = 0; toss <= 1; toss++) {
                x = oneBout(5, limit, toss);
                check.due("both, 1000 behind it", x.event(0, BOTH, 0, limit + 1000), 1);
                check.due("a single one, 1001 behind it", x.event(0, TOUCH, 1 - toss, limit + 1001), 2);
                stands(x, "the toss", 0, 0, toss);
                check.due("that one is an event", x.about(0, 9), 2);
            }
            x = oneBout(5, limit, 0);
            x.event(0, TOUCH, 1, limit);
            check.due("one has more, 1001 behind it", x.event(0, TOUCH, 0, limit + 1001), 2);
            stands(x, "more is ahead of the toss", 0, 1, 1);
            x = oneBout(5, limit, 0);
            check.due("the greatest time", x.event(0, BOTH, 9, 99999), 2);
            stands(x, "the greatest time", 0, 0, 0);
        }
        TouchLeague x = oneBout(1, 50, 1);
        x.event(0, BOTH, 0, 50);
        check.due("a single one to 1", x.event(0, TOUCH, 0, 51), 2);
        stands(x, "a single one to 1", 1, 0, 0);
    }

    private static void cardsAtTheLimit() {
        TouchLeague x = oneBout(5, 50, 1);
        x.event(0, YELLOW, 0, 0);
        check.due("a yellow that is a red, 1000 behind it", x.event(0, YELLOW, 0, 1050), 2);
        stands(x, "a red's touch", 0, 1, 1);
        check.due("one yellow", x.about(0, 4), 1);
        check.due("one red", x.about(0, 6), 1);
        x = oneBout(5, 50, 0);
        check.due("a red, 1001 behind it", x.event(0, RED, 0, 1051), 2);
        stands(x, "too late", 0, 0, 0);
        for (int sort : new int[] {BLACK, HURT}) {
            for (int time : new int[] {50, 51, 1050}) {
                x = oneBout(5, 50, 0);
                check.due("sort " + sort + " at " + time, x.event(0, sort, 0, time), 2);
                stands(x, "as it stands", 0, 0, 1);
            }
            x = oneBout(5, 50, 0);
            check.due("sort " + sort + ", 1001 behind it", x.event(0, sort, 0, 1051), 2);
            stands(x, "the toss was ahead of it", 0, 0, 0);
            x = oneBout(5, 50, 0);
            x.event(0, TOUCH, 0, 50);
            check.due("of who has more, at the limit", x.event(0, sort, 0, 50), 2);
            stands(x, "the other one has won with less", 1, 0, 1);
        }
        x = oneBout(15, 50, 0);
        for (int i = 0; i < 15; i++) {
            check.due("yellow " + i, x.event(0, YELLOW, 1, 50), 1);
        }
        check.due("the yellow that is red 15", x.event(0, YELLOW, 1, 50), 2);
        stands(x, "by reds", 15, 0, 0);
        check.due("one yellow", x.about(0, 5), 1);
        check.due("fifteen reds", x.about(0, 7), 15);
    }

    private static void boutsWithNothing() {
        for (int toss = 0; toss <= 1; toss++) {
            TouchLeague x = oneBout(5, 50, toss);
            check.due("ended without events", x.end(0), toss);
            stands(x, "the toss", 0, 0, toss);
            check.due("no events", x.about(0, 9), 0);
            check.due("no walkover any more", x.walkover(0, 0), -3);
            x = oneBout(5, 50, 1 - toss);
            check.due("a walkover", x.walkover(0, toss), 1);
            stands(x, "0 touches", 0, 0, toss);
            check.due("no events", x.about(0, 9), 0);
            check.due("no end any more", x.end(0), -3);
            x = oneBout(5, 50, 1 - toss);
            x.event(0, BOTH, 0, 50);
            x.event(0, TOUCH, toss, 50);
            check.due("ended, one has more", x.end(0), toss);
            check.due("not ended twice", x.end(0), -3);
        }
    }

    /** The fortieth event is taken as any other; behind it nothing is taken, but the bout may be ended. */
    private static void fortyEvents() {
        for (int sort = TOUCH; sort <= HURT; sort++) {
            TouchLeague x = oneBout(1, 50, 0);
            for (int i = 1; i < 40; i++) {
                check.due("event " + i, x.event(0, BOTH, 0, 50), 1);
            }
            boolean ends = sort != BOTH && sort != YELLOW;
            check.due("event 40 of sort " + sort, x.event(0, sort, 1, 50), ends ? 2 : 1);
            check.due("events", x.about(0, 9), 40);
            check.due("over", x.about(0, 2), ends ? 1 : 0);
            check.due("event 41", x.event(0, BOTH, 0, 50), ends ? -3 : -4);
            check.due("end", x.end(0), ends ? -3 : 0);
            check.due("event 41 of one that is over", x.event(0, BOTH, 0, 50), -3);
        }
    }

    private static void voidIsAsNone() {
        TouchLeague x = Check.withPlainFencers(2);
        x.pool(3);
        x.bout(0, 1, 0, 5, 50, 1);
        x.bout(0, 1, -1, 5, 50, 1);
        x.end(0);
        x.end(1);
        check.due("both stand", x.count(3), 2);
        check.due("the order", x.order(0, 0), 1);
        check.due("the ladder", x.ladder(3, 1, 0), 1);
        check.due("both change places", x.hangs(0), 3);
        x.tear(0, true);
        x.tear(1, true);
        check.due("none stands", x.count(3), 0);
        check.due("they are there", x.count(2), 2);
        check.due("no bouts", x.indicator(0, 1, 3), 0);
        check.due("no wins", x.indicator(0, 1, 0), 0);
        check.due("the order without", x.order(0, 0), 0);
        check.due("the ladder waits", x.ladder(3, 1, 0), -5);
        check.due("nothing hangs", x.hangs(0), 0);
        check.due("it was won still", x.about(0, 3), 1);
        x.tear(0, false);
        check.due("one stands again", x.count(3), 1);
        check.due("the order again", x.order(0, 0), 1);
    }

    // ---- 3: pools, texts

    private static void poolsOfTwoAndSeven() {
        TouchLeague x = Check.withPlainFencers(16);
        check.due("two", x.pool(1 << 14 | 1 << 15), 0);
        check.due("seven", x.pool(127 << 9), 1);
        check.due("first of two", x.order(0, 0), 14);
        check.due("last of two", x.order(0, 1), 15);
        check.due("no third", x.order(0, 2), -1);
        check.due("last of seven", x.order(1, 6), 15);
        check.due("no eighth", x.order(1, 7), -1);
        check.due("far beyond", x.order(1, Integer.MAX_VALUE), -1);
        x.write(0, 's');
        check.due("first beside", x.beside(0, 1, 0), 15);
        check.due("last beside", x.beside(0, 1, 6), 9);
        check.due("no eighth beside", x.beside(0, 1, 7), -1);
        check.due("far beyond", x.beside(0, 1, Integer.MAX_VALUE), -1);
        for (int f = 9; f < 15; f++) {
            x.bout(15, f, 1, 5, 50, 0);
            x.end(f - 9);
        }
        check.due("who won all", x.order(1, 0), 15);
        check.due("he alone has won", x.indicator(1, 15, 0), 1000);
        check.due("none hangs: he has more wins without it", x.hangs(5), 0);
        x.bout(9, 10, 1, 5, 50, 1);
        x.end(6);
        check.due("two change places", x.hangs(6), 1 << 9 | 1 << 10);
    }

    private static void winsAreCut() {
        int[] due = {1000, 500, 333, 250, 200, 166, 142, 125, 111};
        TouchLeague x = Check.withPlainFencers(2);
        x.pool(3);
        check.due("without any bout", x.indicator(0, 0, 0), 0);
        for (int i = 0; i < due.length; i++) {
            x.bout(0, 1, 0, 5, 50, i == 0 ? 0 : 1);
            check.due("a bout that goes on is none", x.indicator(0, 0, 3), i);
            x.end(i);
            check.due("1 of " + (i + 1), x.indicator(0, 0, 0), due[i]);
            check.due("the others of " + (i + 1), x.indicator(0, 1, 0), 1000 * i / (i + 1));
        }
    }

    private static long told(TouchLeague x, String text) {
        Check.write(x, 1, text);
        return x.tells(1, 0, 0);
    }

    private static TouchLeague onePool() {
        TouchLeague x = Check.withPlainFencers(2);
        x.pool(3);
        return x;
    }

    private static void longestTexts() {
        TouchLeague x = onePool();
        String ones = "1+1+1+1+1+1+1+1+1+1+1+1+1+1+1+1+1+1+1+1+1+1+1+1+";
        check.due("fifty characters", told(x, ones + "10"), 34);
        check.due("the last can not stand", Check.write(x, 0, ones + "1+"), 50);
        check.due("too early at fifty", x.fault(0), 501);
        Check.write(x, 0, ones + "1a");
        check.due("the last place", x.fault(0), 491);
        Check.write(x, 0, ones.substring(0, 42) + "(1234567");
        check.due("a seventh digit at the last place", x.fault(0), 432);
        Check.write(x, 0, ones.substring(0, 40) + "((((((((((");
        check.due("the 9th ( ahead of the last place", x.fault(0), 483);
        check.due("six digits", told(x, "999999"), 999999);
        check.due("six digits of 0", told(x, "000000"), 0);
        Check.write(x, 0, "0000000");
        check.due("seven digits of 0", x.fault(0), 2);
        check.due("one digit", told(x, "0"), 0);
        check.due("eight open", told(x, "((((((((7))))))))"), 7);
        check.due("eight open twice", told(x, "((((((((7))))))))-((((((((9))))))))"), -2);
        check.due("blanks alone around", told(x, "                                                5 "), 5);
        check.due("49 of - UNIT", told(x, "-------------------------------------------------5"), -5);
        check.due("erased", x.erase(1), 50);
        check.due("an empty text", x.fault(1), 1);
        check.due("nothing to erase", x.erase(1), 0);
        check.due("an empty text tells nothing", x.tells(1, 0, 0), -3000000000000000000L);
    }

    /** A text that is read behind one with a fault is read as if that had not been. */
    private static void textsBehindFaults() {
        String[] faulty = {"(((", "(-", "(-(-(-", "2*(3*(", "1-(2-(", "-", "9*", "(1/", "((((((((-(", "1234567", "-1234567"};
        for (String text : faulty) {
            TouchLeague x = onePool();
            Check.write(x, 0, text);
            Check.write(x, 1, "((7)+(5))");
            check.holds(text + " has a fault", x.fault(0) > 0);
            check.due("behind " + text, x.tells(1, 0, 0), 12);
            check.due("no fault behind " + text, x.fault(1), -1);
            check.due("the fault of " + text + " again", x.tells(0, 0, 0), -3000000000000000000L);
            check.due("once more behind " + text, x.tells(1, 0, 0), 12);
        }
    }

    private static void longsWrap() {
        TouchLeague x = onePool();
        String least = "65536*65536*65536*32768";
        check.due("the least long", told(x, least), Long.MIN_VALUE);
        check.due("one less", told(x, least + "-1"), Long.MAX_VALUE);
        check.due("the other sign", told(x, "-(" + least + ")"), Long.MIN_VALUE);
        check.due("by - 1", told(x, least + "/-1"), Long.MIN_VALUE);
        check.due("twice", told(x, least + "*2"), 0);
        check.due("one more than the greatest", told(x, least + "-1+1"), Long.MIN_VALUE);
        check.due("by 0", told(x, least + "/0"), 0);
        check.due("by what is 0", told(x, "7/(1-1)+5"), 5);
        check.due("0 by 0", told(x, "0/0"), 0);
        check.due("cut toward 0", told(x, "(1-8)/2"), -3);
        check.due("cut toward 0", told(x, "7/(1-3)"), -3);
        check.due("cut toward 0", told(x, "1/2"), 0);
        check.due("cut toward 0", told(x, "-1/2"), 0);
    }

    /** Seeds 1 and 2 tell the greatest and the least long: a difference of these would wrap. */
    private static void besideFarApart() {
        TouchLeague x = Check.withFencers(0, 0, 2, 1, 1, 1, 2, 2, 3);
        x.pool(7);
        Check.write(x, 0, "65536*65536*65536*32768-2+s");
        check.due("told of seed 1", x.tells(0, 0, 1), Long.MAX_VALUE);
        check.due("told of seed 2", x.tells(0, 0, 0), Long.MIN_VALUE);
        check.due("the greatest", x.beside(0, 0, 0), 1);
        check.due("one more than the least", x.beside(0, 0, 1), 2);
        check.due("the least", x.beside(0, 0, 2), 0);
        TouchLeague y = Check.withFencers(0, 0, 1, 0, 0, 2, 0, 0, 3, 0, 0, 4, 0, 0, 5, 0, 0, 6, 0, 0, 7);
        y.pool(127);
        Check.write(y, 0, "s");
        Check.write(y, 1, "s/3");
        int[] shares = {5, 6, 2, 3, 4, 0, 1};
        for (int i = 0; i < 7; i++) {
            check.due("all turned round: place " + i, y.beside(0, 0, i), 6 - i);
            check.due("alike ones as the order: place " + i, y.beside(1, 0, i), shares[i]);
        }
    }

    // ---- 4: ladders, pools apart, referees

    private static void laddersOfEachSize() {
        int[][] tables = {{0, 1}, {0, 3, 2, 1}, {0, 7, 4, 3, 2, 5, 6, 1}, {0, 15, 8, 7, 4, 11, 12, 3, 2, 13, 10, 5, 6, 9, 14, 1}};
        for (int many = 2; many <= 16; many++) {
            TouchLeague x = Check.withPlainFencers(16);
            int set = (1 << many) - 1, rounds = many == 2 ? 1 : many <= 4 ? 2 : many <= 8 ? 3 : 4, size = 1 << rounds;
            for (int i = 0; i < size; i++) {
                int number = tables[rounds - 1][i];
                check.due("place " + i + " of " + many, x.ladder(set, 0, i), number < many ? number : -1);
            }
            check.due("no place behind the last of " + many, x.ladder(set, 0, size), -2);
            check.due("the last round of " + many, x.ladder(set, rounds, 0), -5);
            check.due("one place in it", x.ladder(set, rounds, 1), -2);
            check.due("no round behind it", x.ladder(set, rounds + 1, 0), -2);
            for (int i = 0; i < size / 2; i++) {
                int one = tables[rounds - 1][2 * i], other = tables[rounds - 1][2 * i + 1];
                int due = one >= many ? other : other >= many ? one : -5;
                check.due("round 1 place " + i + " of " + many, x.ladder(set, 1, i), due);
            }
        }
    }

    private static void leastAndMostApart() {
        TouchLeague x = Check.withPlainFencers(16);
        check.due("two of one land in one", x.apart(1 << 15 | 1 << 9, 1, -1), 1);
        check.due("two of one land in two", x.apart(1 << 15 | 1 << 9, 2, -1), 0);
        check.due("the pool of the last", x.apart(1 << 15 | 1 << 9, 1, 15), 0);
        check.due("two in three: the first", x.apart(1 << 15 | 1 << 9, 3, 9), 0);
        check.due("two in three: the other", x.apart(1 << 15 | 1 << 9, 3, 15), 1);
        TouchLeague y = new TouchLeague();
        for (int i = 0; i < 12; i++) {
            y.fencer(7, 5, 12 - i);
        }
        check.due("twelve of one club in one", y.apart(4095, 1, -1), 3 * 66);
        check.due("twelve of one club in two", y.apart(4095, 2, -1), 3 * 30);
        check.due("twelve of one club in three", y.apart(4095, 3, -1), 3 * 18);
        for (int f = 0; f < 12; f++) {
            check.due("the first way: pool of " + f, y.apart(4095, 3, f), (11 - f) % 3);
        }
        check.due("eleven in three: a short row", y.apart(2047, 3, -1), 3 * (6 + 6 + 3));
        check.due("two of one club in one", y.apart(3, 1, -1), 3);
        check.due("two of one club in two", y.apart(3, 2, -1), 0);
    }

    private static void emptyAndFullHours() {
        TouchLeague x = Check.withPlainFencers(2);
        check.due("nobody serves at no bouts", x.serve(0), 0);
        for (int i = 0; i < 30; i++) {
            x.bout(0, 1, -1, 5, 5, 0);
        }
        check.due("without referees", x.service(1, 0), -1);
        check.due("without referees", x.serve(1 << 29), -1);
        for (int i = 0; i < 7; i++) {
            x.referee(9, 5);
        }
        check.due("seven for eight", x.service(255 << 22, 29), -1);
        check.due("seven for eight", x.serve(255 << 22), -1);
        check.due("seven for seven", x.service(127 << 23, 29), 6);
        check.due("the eighth", x.referee(9, 5), 7);
        check.due("eight for eight: the first", x.service(255 << 22, 22), 0);
        check.due("eight for eight: the last", x.service(255 << 22, 29), 7);
        check.due("eight serve", x.serve(255 << 22), 8);
        for (int i = 2; i <= 200; i++) {
            check.due("eight serve again", x.serve(255), 8);
        }
        check.due("hours of the first", x.hours(0), 200);
        check.due("hours of the last", x.hours(7), 200);
        check.due("at no bouts none has more", x.serve(0), 0);
        check.due("hours of the first", x.hours(0), 200);
    }

    // ---- 5: relays, habits, rankings, images

    private static void relaysAtTheirEnds() {
        TouchLeague x = new TouchLeague();
        for (int what = -1; what <= 17; what++) {
            check.due("without touches: " + what, x.relay(201, what), 0);
        }
        for (int row = 0; row < 9; row++) {
            check.due("fifteen of the second", x.pair(row / 3, row % 3, 15, 32767), 1);
        }
        check.due("the least margin", x.relay(210, -1), -45);
        check.due("the first team's", x.relay(210, 16), 0);
        check.due("the second team's", x.relay(210, 17), 45);
        check.due("all alike: the first order", x.bestOrder(), 12);
        for (int row = 0; row < 9; row++) {
            check.due("five of the first", x.pair(row / 3, row % 3, 5, 0), 1);
        }
        for (int turn = 0; turn < 9; turn++) {
            check.due("five more behind turn " + turn, x.relay(21, 2 * turn), 5 * turn + 5);
        }
        for (int row = 0; row < 9; row++) {
            check.due("four of the first", x.pair(row / 3, row % 3, 4, 0), 1);
        }
        check.due("every row ends", x.relay(21, 16), 36);
        for (int many = 0; many <= 15; many++) {
            TouchLeague y = new TouchLeague();
            check.due("a row of " + many, y.pair(0, 0, many, (1 << many) - 1), 1);
            check.due("its touches in turn 4", y.relay(12, 9), many);
        }
        TouchLeague z = new TouchLeague();
        z.pair(2, 2, 15, 0b1111000_00000000);
        check.due("behind the fifth none comes", z.relay(12, 1), 0);
        check.due("the fifth comes", z.relay(12, 0), 5);
    }

    private static void leastNotes() {
        TouchLeague x = new TouchLeague();
        for (int i = 0; i < 8; i++) {
            x.referee(0, 0);
        }
        for (int what = 0; what <= 3; what++) {
            check.due("without notes", x.habit(7, what), 0);
        }
        int[] told = {-1, 0, 1};
        int many = 0;
        for (int one : told) {
            for (int other : told) {
                many++;
                check.due("note " + many, x.judged(7, 0, one, other), many);
            }
        }
        check.due("six of nine differ", x.habit(7, 0), 6);
        check.due("two times it", x.habit(7, 1), 2);
        check.due("two times the other one", x.habit(7, 2), 2);
        check.due("of the other one", x.habit(0, 0), 6);
        check.due("alike: no habit", x.habit(7, 3), 0);
        check.due("of a third one", x.habit(3, 0), 0);
        for (int i = 0; i < 4; i++) {
            x.judged(3, 4, 0, 1);
        }
        check.due("4 of 4 is 1 by 16", x.habit(3, 3), 0);
        x.judged(4, 3, 1, -1);
        check.due("one that is neither is not of them", x.habit(3, 3), 0);
        x.judged(4, 3, -1, 0);
        check.due("5 of 5 is 1 by 32", x.habit(3, 3), 1);
        check.due("the other one's", x.habit(4, 3), -1);
    }

    private static void weeksAtTheEnds() {
        TouchLeague x = Check.withPlainFencers(16);
        x.result(15, 0, 1000, 0);
        check.due("week 0", x.ranking(15, 0, 0, 0), 1000);
        check.due("week 51", x.ranking(15, 51, 0, 0), 1000);
        check.due("week 52", x.ranking(15, 52, 0, 0), 0);
        x.result(15, 948, 7, 999);
        check.due("week 999, 51 ahead", x.ranking(15, 999, 999, 0), 7);
        check.due("not known a week ahead", x.ranking(15, 999, 998, 0), 0);
        x.result(15, 947, 5, 999);
        check.due("week 999, 52 ahead", x.ranking(15, 999, 999, 0), 7);
        x.result(15, 999, 3, 999);
        check.due("week 999", x.ranking(15, 999, 999, 0), 10);
        check.due("week 998", x.ranking(15, 998, 999, 0), 12);
        TouchLeague y = Check.withPlainFencers(16);
        for (int i = 0; i < 12; i++) {
            y.result(0, 5, 1000, 5);
        }
        check.due("five of twelve", y.ranking(0, 5, 5, 0), 5000);
        check.due("ten", y.counted(10), 5);
        check.due("ten of twelve", y.ranking(0, 5, 5, 0), 10000);
        check.due("one", y.counted(1), 10);
        check.due("one of twelve", y.ranking(0, 5, 5, 0), 1000);
        check.due("without results all are first", y.ranking(15, 4, 5, 1), 1);
        for (int f = 0; f < 15; f++) {
            y.result(f, 6, 1, 6);
        }
        check.due("behind fifteen", y.ranking(15, 6, 6, 1), 16);
        check.due("the first", y.ranking(0, 6, 6, 1), 1);
        check.due("alike with thirteen", y.ranking(14, 6, 6, 1), 2);
    }

    private static TouchLeague fullLeague() {
        TouchLeague x = Check.withPlainFencers(16);
        for (int i = 0; i < 120; i++) {
            x.bout(i % 16, (i + 1) % 16, -1, 15, 9999, i % 2);
            x.walkover(i, i % 2);
        }
        for (int i = 0; i < 20; i++) {
            x.act(1, i % 5, 9999);
            x.pool(65);
            x.referee(9, 5);
        }
        for (int i = 0; i < 60; i++) {
            x.result(i % 16, 900 + i, 1000, 999);
            x.judged(0, 1, i % 2, -1);
        }
        return x;
    }

    private static void fullTables() {
        TouchLeague x = fullLeague();
        int[] due = {20, 16, 120, 120, 6, 8, 60, 60};
        for (int what = 0; what <= 7; what++) {
            check.due("count(" + what + ") at its greatest", x.count(what), due[what]);
        }
        check.due("the last bout of a full table tells", x.ladder(0x101 << 7, 1, 0), -5);
        check.due("neighbours", x.ladder(3 << 7, 1, 0), 8);
        check.due("sixty notes", x.habit(0, 0), 60);
        check.due("thirty of them", x.habit(0, 1), 30);
        check.due("the last result counts", x.ranking(11, 959, 999, 0), 4000);
        check.due("twelve have one of the last 52 weeks", x.ranking(15, 999, 999, 1), 13);
    }

    private static void imagesOfNothingAndOfAll() {
        TouchLeague x = fullLeague();
        long all = x.digest();
        long none = new TouchLeague().digest();
        check.due("of all", x.image(1), 1);
        check.due("back to it", x.from(1), 1);
        check.due("all", x.digest(), all);
        TouchLeague y = new TouchLeague();
        check.due("of nothing", y.image(0), 1);
        y.fencer(9, 5, 999);
        y.pair(0, 0, 15, 0);
        y.counted(10);
        y.write(3, 127);
        check.due("something is kept", y.image(1), 1);
        check.due("nothing again", y.from(0), 1);
        check.due("nothing", y.digest(), none);
        check.due("no pair", y.relay(12, -1), 0);
        check.due("the first one anew", y.fencer(1, 1, 1), 0);
        check.due("an image is none of another", y.from(1), 1);
        check.due("the pair", y.relay(12, -1), 15);
        check.due("the seed", y.seed(0, 1), 999);
        check.due("k", y.counted(5), 10);
        check.due("the text", y.erase(3), 1);
    }
}
