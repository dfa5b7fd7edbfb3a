/** Promises 37 to 40: image, from, count, digest. */
public final class ImageTest {
    private static final Check check = new Check();

    public static void main(String[] args) {
        imagesAreRefused();
        allIsKept();
        imagesStandAlone();
        counts();
        digests();
        check.finish();
    }

    private static void imagesAreRefused() {
        TouchLeague x = new TouchLeague();
        check.due("image 2", x.image(2), -2);
        check.due("image -1", x.image(-1), -2);
        check.due("from 2", x.from(2), -2);
        check.due("from -1", x.from(-1), -2);
        check.due("from 0", x.from(0), -3);
        check.due("image 0", x.image(0), 1);
        check.due("from 1", x.from(1), -3);
        check.due("from 0", x.from(0), 1);
    }

    /** Something of each kind; a second time each of them changes. */
    private static void tell(TouchLeague x, int time) {
        x.act(0, 0, 10 * time);
        x.act(0, 4, 10 * time + 1);
        x.fencer(time, time, 5);
        x.fencer(time + 1, time + 1, 4);
        x.pool(3 << (2 * time - 2));
        int bout = x.bout(0, 1, 0, 5, 100, 0);
        x.event(bout, 0, 0, 50 + time);
        x.event(bout, 2, 1, 60 + time);
        x.write(time, 'w');
        x.referee(time, time);
        x.referee(9, 5);
        x.judged(0, 1, 0, 1);
        x.result(0, time, 10, time);
        x.pair(0, 1, time, 0);
        x.counted(time + 1);
    }

    /** Answers of what the digest does not hold, with it. */
    private static long[] answers(TouchLeague x) {
        return new long[] {x.digest(), x.habit(0, 1), x.relay(12, -1), x.event(0, 0, 0, 40), x.order(0, 0),
            x.ranking(0, 2, 2, 0), x.line(0, 9999), x.touch(0), x.fault(1), x.fault(2), x.hours(0), x.about(0, 9)};
    }

    private static void same(String when, long[] got, long[] want) {
        for (int i = 0; i < want.length; i++) {
            check.due(when + ": answer " + i, got[i], want[i]);
        }
    }

    private static void allIsKept() {
        TouchLeague x = new TouchLeague();
        tell(x, 1);
        x.serve(0);
        long[] then = answers(x);
        check.due("kept", x.image(1), 1);
        same("keeping changes nothing", answers(x), then);
        tell(x, 2);
        x.seed(0, 77);
        x.end(0);
        x.tear(0, true);
        x.erase(1);
        check.holds("it goes on", answers(x)[0] != then[0]);
        check.due("back", x.from(1), 1);
        same("back", answers(x), then);
        check.due("counts come back", x.count(6), 1);
        check.due("acts come back", x.count(0), 2);
        check.due("an act's last time, too", x.act(0, 0, 10), -2);
        check.due("k comes back", x.counted(9), 2);
        tell(x, 2);
        check.due("back again", x.from(1), 1);
        same("back again", answers(x), then);
    }

    private static void imagesStandAlone() {
        TouchLeague x = new TouchLeague();
        x.image(0);
        x.fencer(1, 1, 1);
        x.image(1);
        x.fencer(2, 2, 2);
        check.due("from 0", x.from(0), 1);
        check.due("nothing there", x.count(1), 0);
        check.due("the image 1 is there still", x.from(1), 1);
        check.due("one there", x.count(1), 1);
        check.due("kept over the old", x.image(0), 1);
        x.fencer(3, 3, 3);
        x.from(0);
        check.due("the newer", x.count(1), 1);
        check.due("its seed", x.seed(0, 9), 1);
        x.from(1);
        check.due("not that of the image", x.seed(0, 8), 1);
    }

    private static void counts() {
        TouchLeague x = new TouchLeague();
        tell(x, 1);
        tell(x, 2);
        x.act(1, 3, 30);
        x.result(1, 9, 9, 9);
        x.result(1, 9, 9, 9);
        x.judged(2, 1, 0, 0);
        x.bout(1, 0, -1, 3, 3, 1);
        x.end(0);
        x.end(2);
        x.tear(2, true);
        int[] due = {5, 4, 3, 1, 2, 4, 3, 4};
        for (int what = 0; what < due.length; what++) {
            check.due("count(" + what + ")", x.count(what), due[what]);
        }
        check.due("count(-1)", x.count(-1), -2);
        check.due("count(8)", x.count(8), -2);
    }

    private static long mixed(long... numbers) {
        long h = 293;
        for (long v : numbers) {
            h = 31 * h + v;
        }
        return h;
    }

    private static void digests() {
        TouchLeague x = new TouchLeague();
        x.act(1, 3, 44);
        x.fencer(7, 5, 321);
        x.fencer(6, 4, 123);
        x.pool(3);
        x.bout(1, 0, 0, 5, 100, 1);
        x.event(0, 2, 0, 10);
        x.event(0, 2, 0, 10);
        x.event(0, 0, 0, 11);
        x.event(0, 1, 0, 12);
        x.bout(0, 1, -1, 6, 200, 0);
        x.end(1);
        x.tear(1, true);
        x.write(0, 'w');
        x.write(3, '1');
        x.write(3, '2');
        x.referee(2, 3);
        x.referee(9, 1);
        x.serve(1);
        x.judged(0, 1, 0, 1);
        x.result(1, 20, 30, 40);
        x.counted(8);
        check.due("digest", x.digest(), mixed(
                1, 2, 2, 0, 1, 2, 1, 1,
                1, 3, 44,
                7, 5, 321, 6, 4, 123,
                1, 0, 0, 5, 100, 1, 2, 2, 0, -1, 1, 0, 1, 0, 0, 4,
                0, 1, -1, 6, 200, 0, 0, 0, 1, 0, 0, 0, 0, 0, 1, 0,
                3,
                1, 'w', 0, 0, 2, '1', '2',
                2, 3, 1, 9, 1, 0,
                1, 20, 30, 40,
                8));
        long before = x.digest();
        x.pair(0, 0, 3, 1);
        check.due("pairs are not told in it, and asking changes nothing", x.digest(), before);
    }
}
