/**
 * Every refusal of promises 1 to 40, at the values just outside of each bound, in the order of the document (BAD, NO,
 * FULL), and that a refused call changes nothing. Each method is a promise; one with NONE in its answers is no refusal.
 */
public final class RefusalTest {
    private static final long BAD = -2, NO = -3, FULL = -4;
    private static final long BAD_TOLD = -2000000000000000000L, NO_TOLD = -3000000000000000000L;
    private static final Check check = new Check();
    private static final Twins fresh = new Twins(check, "a new object", TouchLeague::new);
    private static final Twins league = new Twins(check, "a league", RefusalTest::league);
    private static final Twins full = new Twins(check, "a full league", RefusalTest::fullLeague);

    public static void main(String[] args) {
        phrases();
        fencers();
        bouts();
        events();
        ends();
        pools();
        texts();
        ladders();
        services();
        relays();
        notes();
        results();
        images();
        check.finish();
    }

    /**
     * Fencers 0 to 7; pools of 0, 1, 2 and of 3, 4; bouts: 0 goes on, its last event was at 50; 1 is ended, by no event;
     * 2 is a walkover; 3 is over and void; 4 has no event yet. Text 0 has no fault, 1 one. Image 0 is kept, 1 not.
     */
    private static TouchLeague league() {
        TouchLeague x = Check.withPlainFencers(8);
        x.pool(7);
        x.pool(24);
        x.bout(0, 1, 0, 5, 100, 0);
        x.event(0, 0, 0, 50);
        x.bout(1, 2, 0, 3, 100, 1);
        x.end(1);
        x.bout(0, 2, -1, 3, 100, 1);
        x.walkover(2, 1);
        x.bout(3, 4, 1, 1, 100, 0);
        x.event(3, 0, 0, 60);
        x.tear(3, true);
        x.referee(9, 5);
        x.referee(8, 5);
        x.judged(0, 1, 0, 1);
        x.pair(0, 0, 3, 5);
        x.act(0, 0, 400);
        x.image(0);
        x.bout(0, 1, -1, 3, 100, 1);
        x.referee(7, 5);
        x.judged(1, 2, 0, -1);
        x.result(0, 10, 20, 30);
        x.pair(0, 0, 4, 1);
        x.counted(4);
        Check.write(x, 0, "w+1");
        Check.write(x, 1, "w+");
        x.act(1, 4, 500);
        return x;
    }

    /** Every table is full; bout 0 has 40 events and goes on, bout 1 has as many and is over by the last. */
    private static TouchLeague fullLeague() {
        TouchLeague x = Check.withPlainFencers(16);
        for (int i = 0; i < 6; i++) {
            x.pool(3 << i);
        }
        for (int i = 0; i < 120; i++) {
            x.bout(0, 1, -1, 2, 100, 0);
        }
        for (int i = 0; i < 40; i++) {
            x.event(0, i < 39 ? 1 : 2, 0, 40);
        }
        for (int i = 0; i < 8; i++) {
            x.referee(9, 5);
        }
        for (int i = 0; i < 60; i++) {
            x.judged(0, 1, 0, -1);
            x.result(0, 10, 20, 30);
        }
        for (int i = 0; i < 20; i++) {
            x.act(1, 3, 500);
        }
        Check.write(x, 0, "1+1+1+1+1+1+1+1+1+1+1+1+1+1+1+1+1+1+1+1+1+1+1+1+10");
        return x;
    }

    private static void phrases() {
        league.refuseOutside("act: fencer", 0, 1, BAD, (x, v) -> x.act(v, 0, 600));
        league.refuseOutside("act: sort", 0, 4, BAD, (x, v) -> x.act(0, v, 600));
        league.refuseOutside("act: time", 500, 9999, BAD, (x, v) -> x.act(0, 0, v));
        fresh.refuseOutside("act: time", 0, 9999, BAD, (x, v) -> x.act(0, 0, v));
        full.refuse("act 21", FULL, x -> x.act(0, 0, 500));
        full.refuse("act 21, fencer 2", BAD, x -> x.act(2, 0, 500));
        full.refuse("act 21, sort 5", BAD, x -> x.act(0, 5, 500));
        full.refuse("act 21, time 499", BAD, x -> x.act(0, 0, 499));
        league.refuseOutside("line: weapon", 0, 1, BAD, (x, v) -> x.line(v, 500));
        league.refuseOutside("line: time", 0, 9999, BAD, (x, v) -> x.line(0, v));
        league.refuseOutside("touch: weapon", 0, 2, BAD, TouchLeague::touch);
    }

    private static void fencers() {
        league.refuseOutside("fencer: club", 0, 9, BAD, (x, v) -> x.fencer(v, 0, 1));
        league.refuseOutside("fencer: land", 0, 5, BAD, (x, v) -> x.fencer(0, v, 1));
        league.refuseOutside("fencer: seed", 1, 999, BAD, (x, v) -> x.fencer(0, 0, v));
        full.refuse("fencer 16", FULL, x -> x.fencer(0, 0, 1));
        full.refuse("fencer 16, club 10", BAD, x -> x.fencer(10, 0, 1));
        full.refuse("fencer 16, land 6", BAD, x -> x.fencer(0, 6, 1));
        full.refuse("fencer 16, seed 0", BAD, x -> x.fencer(0, 0, 0));
        fresh.refuseEach("seed: fencer", BAD, (x, v) -> x.seed(v, 5), 0, -1);
        league.refuseOutside("seed: fencer", 0, 7, BAD, (x, v) -> x.seed(v, 5));
        league.refuseOutside("seed: seed", 1, 999, BAD, (x, v) -> x.seed(7, v));
        full.refuseOutside("seed: fencer", 0, 15, BAD, (x, v) -> x.seed(v, 5));
    }

    private static void bouts() {
        fresh.refuse("bout of nobody", BAD, x -> x.bout(0, 1, -1, 5, 100, 0));
        league.refuseOutside("bout: a", 0, 7, BAD, (x, v) -> x.bout(v, 1, -1, 5, 100, 0));
        league.refuseOutside("bout: b", 0, 7, BAD, (x, v) -> x.bout(1, v, -1, 5, 100, 0));
        league.refuseEach("bout: alike", BAD, (x, v) -> x.bout(v, v, -1, 5, 100, 0), 0, 7);
        league.refuseOutside("bout: pool", -1, 1, BAD, (x, v) -> x.bout(0, 1, v, 5, 100, 0));
        league.refuse("bout: the first is not in the pool", BAD, x -> x.bout(3, 1, 0, 5, 100, 0));
        league.refuse("bout: the second is not in the pool", BAD, x -> x.bout(1, 3, 0, 5, 100, 0));
        league.refuse("bout: both are in another pool", BAD, x -> x.bout(3, 4, 0, 5, 100, 0));
        league.refuseOutside("bout: n", 1, 15, BAD, (x, v) -> x.bout(0, 1, 0, v, 100, 0));
        league.refuseOutside("bout: limit", 1, 9999, BAD, (x, v) -> x.bout(0, 1, 0, 5, v, 0));
        league.refuseOutside("bout: toss", 0, 1, BAD, (x, v) -> x.bout(0, 1, 0, 5, 100, v));
        full.refuse("bout 120", FULL, x -> x.bout(0, 1, 0, 5, 100, 0));
        full.refuse("bout 120, alike", BAD, x -> x.bout(1, 1, -1, 5, 100, 0));
        full.refuse("bout 120, fencer 16", BAD, x -> x.bout(0, 16, -1, 5, 100, 0));
        full.refuse("bout 120, not in the pool", BAD, x -> x.bout(0, 2, 0, 5, 100, 0));
        full.refuse("bout 120, n 16", BAD, x -> x.bout(0, 1, 0, 16, 100, 0));
        full.refuse("bout 120, limit 0", BAD, x -> x.bout(0, 1, 0, 5, 0, 0));
        full.refuse("bout 120, toss 2", BAD, x -> x.bout(0, 1, 0, 5, 100, 2));
    }

    private static void events() {
        fresh.refuse("event of no bout", BAD, x -> x.event(0, 0, 0, 60));
        league.refuseOutside("event: bout", 0, 4, BAD, (x, v) -> x.event(v, 0, 0, 60));
        league.refuseOutside("event: sort", 0, 5, BAD, (x, v) -> x.event(0, v, 0, 60));
        for (int sort : new int[] {0, 2, 3, 4, 5}) {
            league.refuseOutside("event: who of sort " + sort, 0, 1, BAD, (x, v) -> x.event(0, sort, v, 60));
        }
        league.refuseOutside("event: time", 50, 99999, BAD, (x, v) -> x.event(0, 0, 0, v));
        league.refuseOutside("event: time of the first", 0, 99999, BAD, (x, v) -> x.event(4, 0, 0, v));
        league.refuseEach("event: it is over, bout", NO, (x, v) -> x.event(v, 0, 0, 60), 1, 2, 3);
        league.refuse("event: it is over, bout 5", BAD, x -> x.event(5, 0, 0, 60));
        league.refuse("event: it is over, sort 6", BAD, x -> x.event(3, 6, 0, 60));
        league.refuse("event: it is over, who 2", BAD, x -> x.event(3, 0, 2, 60));
        league.refuse("event: it is over, time 59", BAD, x -> x.event(3, 0, 0, 59));
        league.refuse("event: it is over, time 100000", BAD, x -> x.event(3, 0, 0, 100000));
        full.refuse("event 41", FULL, x -> x.event(0, 0, 0, 40));
        full.refuse("event 41, at a time that would end it", FULL, x -> x.event(0, 1, 0, 99999));
        full.refuse("event 41, sort 6", BAD, x -> x.event(0, 6, 0, 40));
        full.refuse("event 41, who 2", BAD, x -> x.event(0, 0, 2, 40));
        full.refuse("event 41, time 39", BAD, x -> x.event(0, 0, 0, 39));
        Twins over = new Twins(check, "over by event 40", RefusalTest::overByTheLastEvent);
        over.refuse("event 41", NO, x -> x.event(0, 0, 0, 40));
        over.refuse("event 41, time 39", BAD, x -> x.event(0, 0, 0, 39));
    }

    private static TouchLeague overByTheLastEvent() {
        TouchLeague x = Check.withPlainFencers(2);
        x.bout(0, 1, -1, 1, 100, 0);
        for (int i = 1; i <= 40; i++) {
            check.due("event " + i, x.event(0, i < 40 ? 1 : 0, 1, 40), i < 40 ? 1 : 2);
        }
        return x;
    }

    private static void ends() {
        league.refuseOutside("end: bout", 0, 4, BAD, TouchLeague::end);
        league.refuseEach("end: it is over, bout", NO, TouchLeague::end, 1, 2, 3);
        league.refuseOutside("walkover: bout", 0, 4, BAD, (x, v) -> x.walkover(v, 0));
        league.refuseOutside("walkover: who", 0, 1, BAD, (x, v) -> x.walkover(4, v));
        league.refuseEach("walkover: it is over, bout", NO, (x, v) -> x.walkover(v, 0), 1, 2, 3);
        league.refuse("walkover: it has events", NO, x -> x.walkover(0, 0));
        league.refuse("walkover: it is over, who 2", BAD, x -> x.walkover(2, 2));
        league.refuse("walkover: it has events, who -1", BAD, x -> x.walkover(0, -1));
        league.refuseOutside("tear: bout", 0, 4, BAD, (x, v) -> x.tear(v, true));
        league.refuseOutside("tear: bout", 0, 4, BAD, (x, v) -> x.tear(v, false));
        league.refuse("tear: it is void", NO, x -> x.tear(3, true));
        league.refuseEach("tear: it is not void, bout", NO, (x, v) -> x.tear(v, false), 0, 1, 2, 4);
        league.refuseOutside("about: bout", 0, 4, BAD, (x, v) -> x.about(v, 0));
        league.refuseOutside("about: what", 0, 9, BAD, (x, v) -> x.about(0, v));
    }

    private static void pools() {
        fresh.refuseEach("pool of nobody", BAD, TouchLeague::pool, 0, 1, 3, 127, -1);
        league.refuseEach("pool of", BAD, TouchLeague::pool, 0, 1, 128, 255, 256, 257, 3 | 1 << 31, -1,
                Integer.MAX_VALUE, Integer.MIN_VALUE);
        full.refuse("pool 6", FULL, x -> x.pool(3));
        full.refuseEach("pool 6 of", BAD, TouchLeague::pool, 0, 1 << 15, 255, 3 | 1 << 16, -1);
        league.refuseOutside("indicator: pool", 0, 1, -100000, (x, v) -> x.indicator(v, 0, 0));
        league.refuseOutside("indicator: fencer", 0, 2, -100000, (x, v) -> x.indicator(0, v, 0));
        league.refuseEach("indicator: not there", -100000, (x, v) -> x.indicator(1, v, 0), 2, 5, 8, 35, 36);
        league.refuseOutside("indicator: what", 0, 3, -100000, (x, v) -> x.indicator(0, 0, v));
        fresh.refuse("order of none", BAD, x -> x.order(0, 0));
        league.refuseOutside("order: pool", 0, 1, BAD, (x, v) -> x.order(v, 0));
        league.refuseEach("order: place", BAD, (x, v) -> x.order(0, v), -1, Integer.MIN_VALUE);
        league.refuseOutside("hangs: bout", 0, 4, BAD, TouchLeague::hangs);
        league.refuseEach("hangs: of no pool, bout", NO, TouchLeague::hangs, 2, 4);
    }

    private static void texts() {
        league.refuseOutside("write: text", 0, 3, BAD, (x, v) -> x.write(v, 'w'));
        league.refuseOutside("write: character", 0, 127, BAD, (x, v) -> x.write(0, v));
        full.refuse("character 51", FULL, x -> x.write(0, '1'));
        full.refuse("character 51, 128", BAD, x -> x.write(0, 128));
        full.refuse("character 51, -1", BAD, x -> x.write(0, -1));
        league.refuseOutside("erase: text", 0, 3, BAD, TouchLeague::erase);
        league.refuseOutside("fault: text", 0, 3, BAD, TouchLeague::fault);
        league.refuseOutside("tells: text", 0, 3, BAD_TOLD, (x, v) -> x.tells(v, 0, 0));
        league.refuseOutside("tells: pool", 0, 1, BAD_TOLD, (x, v) -> x.tells(0, v, 0));
        league.refuseOutside("tells: fencer", 0, 2, BAD_TOLD, (x, v) -> x.tells(0, 0, v));
        league.refuseEach("tells: a fault, text", NO_TOLD, (x, v) -> x.tells(v, 0, 0), 1, 2, 3);
        league.refuse("tells: a fault, pool 2", BAD_TOLD, x -> x.tells(1, 2, 0));
        league.refuse("tells: a fault, fencer 3 is not in it", BAD_TOLD, x -> x.tells(1, 0, 3));
        league.refuseOutside("beside: text", 0, 3, BAD, (x, v) -> x.beside(v, 0, 0));
        league.refuseOutside("beside: pool", 0, 1, BAD, (x, v) -> x.beside(0, v, 0));
        league.refuseEach("beside: place", BAD, (x, v) -> x.beside(0, 0, v), -1, Integer.MIN_VALUE);
        league.refuseEach("beside: a fault, text", NO, (x, v) -> x.beside(v, 0, 0), 1, 2, 3);
        league.refuse("beside: a fault, not so many", NO, x -> x.beside(1, 0, 3));
        league.refuse("beside: a fault, pool 2", BAD, x -> x.beside(1, 2, 0));
        league.refuse("beside: a fault, place -1", BAD, x -> x.beside(1, 0, -1));
    }

    private static void ladders() {
        fresh.refuse("ladder of nobody", BAD, x -> x.ladder(3, 0, 0));
        league.refuseEach("ladder of", BAD, (x, v) -> x.ladder(v, 0, 0), 0, 1, 128, 256, 257, -1, 3 | 1 << 31,
                Integer.MAX_VALUE, Integer.MIN_VALUE);
        full.refuseEach("ladder of", BAD, (x, v) -> x.ladder(v, 0, 0), 1 << 15, 3 | 1 << 16, 0x1FFFF);
        int[][] roundsOf = {{3, 1}, {7, 2}, {15, 2}, {31, 3}, {255, 3}};
        for (int[] set : roundsOf) {
            league.refuseOutside("ladder of " + set[0] + ": round", 0, set[1], BAD, (x, v) -> x.ladder(set[0], v, 0));
            for (int r = 0; r <= set[1]; r++) {
                int round = r, last = (1 << (set[1] - r)) - 1;
                league.refuseOutside("ladder of " + set[0] + ": place", 0, last, BAD, (x, v) -> x.ladder(set[0], round, v));
            }
        }
        full.refuseEach("ladder of sixteen: round", BAD, (x, v) -> x.ladder(65535, v, 0), -1, 5, 31, 32, 33);
        full.refuseEach("ladder of sixteen: place", BAD, (x, v) -> x.ladder(65535, 0, v), -1, 16);
        fresh.refuse("apart of nobody", BAD, x -> x.apart(3, 1, -1));
        league.refuseEach("apart of", BAD, (x, v) -> x.apart(v, 1, -1), 0, 1, 128, 256, 257, -1, 3 | 1 << 31,
                Integer.MAX_VALUE, Integer.MIN_VALUE);
        full.refuseEach("apart of", BAD, (x, v) -> x.apart(v, 3, -1), 1 << 15, 0x1FFF, 65535, 3 | 1 << 16);
        league.refuseOutside("apart: pools", 1, 3, BAD, (x, v) -> x.apart(7, v, -1));
        league.refuseOutside("apart: what", -1, 2, BAD, (x, v) -> x.apart(7, 1, v));
        league.refuseEach("apart: not one of them", BAD, (x, v) -> x.apart(0xA, 1, v), 0, 2, 4, 33, 35);
    }

    private static void services() {
        league.refuseOutside("referee: club", 0, 9, BAD, (x, v) -> x.referee(v, 0));
        league.refuseOutside("referee: land", 0, 5, BAD, (x, v) -> x.referee(0, v));
        full.refuse("referee 8", FULL, x -> x.referee(0, 0));
        full.refuse("referee 8, club 10", BAD, x -> x.referee(10, 0));
        full.refuse("referee 8, land 6", BAD, x -> x.referee(0, 6));
        int[] notThere = {32, 33, 63, 1 << 29, 1 << 30, -1, Integer.MIN_VALUE, Integer.MIN_VALUE | 1, Integer.MAX_VALUE};
        fresh.refuse("service of no bout", BAD, x -> x.service(1, 0));
        fresh.refuse("serve no bout", BAD, x -> x.serve(1));
        league.refuseEach("service of", BAD, (x, v) -> x.service(v, 0), notThere);
        league.refuseEach("serve", BAD, TouchLeague::serve, notThere);
        league.refuseEach("service: not one of them", BAD, (x, v) -> x.service(3, v), -1, 2, 4, 5, 30, 31, 32, 33,
                Integer.MIN_VALUE, Integer.MAX_VALUE);
        league.refuse("service of none: not one of them", BAD, x -> x.service(0, 0));
        full.refuseEach("service of nine", BAD, (x, v) -> x.service(v, 0), 511, 255 | 1 << 29);
        full.refuseEach("serve nine", BAD, TouchLeague::serve, 511, 511 << 21, 0x3FFFFFFF);
        full.refuse("service: bout 30", BAD, x -> x.service(1 << 30, 30));
        full.refuse("service: bout 31", BAD, x -> x.service(1 << 31, 31));
        full.refuse("serve: bout 30", BAD, x -> x.serve(1 << 30 | 1));
        full.refuse("serve: bout 31", BAD, x -> x.serve(1 << 31 | 1));
        Twins kin = new Twins(check, "kin alone", RefusalTest::kinAlone);
        kin.refuse("none may serve", -1, x -> x.serve(1));
        kin.refuse("none may serve at one of two", -1, x -> x.serve(3));
        fresh.refuseEach("hours: referee", BAD, TouchLeague::hours, 0, -1);
        league.refuseOutside("hours: referee", 0, 2, BAD, TouchLeague::hours);
        full.refuseOutside("hours: referee", 0, 7, BAD, TouchLeague::hours);
    }

    private static TouchLeague kinAlone() {
        TouchLeague x = Check.withPlainFencers(4);
        x.bout(0, 1, -1, 5, 5, 0);
        x.bout(2, 3, -1, 5, 5, 0);
        x.referee(0, 5);
        x.referee(9, 1);
        return x;
    }

    private static void relays() {
        league.refuseOutside("pair: a", 0, 2, BAD, (x, v) -> x.pair(v, 0, 1, 1));
        league.refuseOutside("pair: b", 0, 2, BAD, (x, v) -> x.pair(0, v, 1, 1));
        league.refuseOutside("pair: many", 0, 15, BAD, (x, v) -> x.pair(0, 0, v, 1));
        league.refuseEach("pair: many, no bits", BAD, (x, v) -> x.pair(0, 0, v, 0), -1, 16, 32, 33, 64);
        for (int many = 0; many <= 15; many++) {
            int m = many;
            league.refuseOutside("pair: bits of " + many, 0, (1 << many) - 1, BAD, (x, v) -> x.pair(0, 0, m, v));
        }
        int[] noOrders = {-1, 0, 1, 2, 11, 13, 20, 22, 100, 101, 103, 110, 119, 121, 200, 202, 209, 211, 220, 222, 1012,
            -12, -102, Integer.MIN_VALUE, Integer.MAX_VALUE};
        league.refuseEach("relay: order", -1000, (x, v) -> x.relay(v, -1), noOrders);
        league.refuseOutside("relay: what", -1, 17, -1000, (x, v) -> x.relay(12, v));
    }

    private static void notes() {
        fresh.refuse("judged by nobody", BAD, x -> x.judged(0, 1, 0, 1));
        league.refuseOutside("judged: first", 0, 2, BAD, (x, v) -> x.judged(v, 1, 0, 1));
        league.refuseOutside("judged: second", 0, 2, BAD, (x, v) -> x.judged(1, v, 0, 1));
        league.refuseEach("judged: alike", BAD, (x, v) -> x.judged(v, v, 0, 1), 0, 1, 2);
        league.refuseOutside("judged: told", -1, 1, BAD, (x, v) -> x.judged(0, 1, v, 1));
        league.refuseOutside("judged: other", -1, 1, BAD, (x, v) -> x.judged(0, 1, 0, v));
        full.refuse("note 61", FULL, x -> x.judged(0, 1, 0, 1));
        full.refuse("note 61, alike", BAD, x -> x.judged(1, 1, 0, 1));
        full.refuse("note 61, referee 8", BAD, x -> x.judged(0, 8, 0, 1));
        full.refuse("note 61, told 2", BAD, x -> x.judged(0, 1, 2, 1));
        full.refuse("note 61, other -2", BAD, x -> x.judged(0, 1, 0, -2));
        fresh.refuseEach("habit: referee", -10, (x, v) -> x.habit(v, 0), 0, -1);
        league.refuseOutside("habit: referee", 0, 2, -10, (x, v) -> x.habit(v, 0));
        league.refuseOutside("habit: what", 0, 3, -10, (x, v) -> x.habit(0, v));
    }

    private static void results() {
        fresh.refuse("result of nobody", BAD, x -> x.result(0, 5, 5, 5));
        league.refuseOutside("result: fencer", 0, 7, BAD, (x, v) -> x.result(v, 10, 20, 30));
        league.refuseOutside("result: week", 0, 999, BAD, (x, v) -> x.result(0, v, 20, 999));
        league.refuse("result: week and known 1000", BAD, x -> x.result(0, 1000, 20, 1000));
        league.refuse("result: week and known -1", BAD, x -> x.result(0, -1, 20, -1));
        league.refuseOutside("result: points", 0, 1000, BAD, (x, v) -> x.result(0, 10, v, 30));
        league.refuseOutside("result: known", 10, 999, BAD, (x, v) -> x.result(0, 10, 20, v));
        full.refuse("result 61", FULL, x -> x.result(0, 10, 20, 30));
        full.refuse("result 61, fencer 16", BAD, x -> x.result(16, 10, 20, 30));
        full.refuse("result 61, week 1000", BAD, x -> x.result(0, 1000, 20, 1000));
        full.refuse("result 61, points 1001", BAD, x -> x.result(0, 10, 1001, 30));
        full.refuse("result 61, known 9", BAD, x -> x.result(0, 10, 20, 9));
        league.refuseOutside("counted", 1, 10, BAD, TouchLeague::counted);
        fresh.refuse("ranking of nobody", BAD, x -> x.ranking(0, 5, 5, 0));
        league.refuseOutside("ranking: fencer", 0, 7, BAD, (x, v) -> x.ranking(v, 40, 40, 0));
        league.refuseOutside("ranking: week", 0, 999, BAD, (x, v) -> x.ranking(0, v, 40, 1));
        league.refuseOutside("ranking: known", 0, 999, BAD, (x, v) -> x.ranking(0, 40, v, 1));
        league.refuseOutside("ranking: what", 0, 1, BAD, (x, v) -> x.ranking(0, 40, 40, v));
    }

    private static void images() {
        league.refuseOutside("image", 0, 1, BAD, TouchLeague::image);
        league.refuseOutside("from", 0, 1, BAD, TouchLeague::from);
        league.refuse("from 1: none was kept", NO, x -> x.from(1));
        fresh.refuseEach("from: none was kept", NO, TouchLeague::from, 0, 1);
        league.refuseOutside("count", 0, 7, BAD, TouchLeague::count);
    }
}
