/** Promises 34 to 36: result, counted, ranking. */
public final class RankingTest {
    private static final Check check = new Check();

    public static void main(String[] args) {
        resultsAreRefused();
        countedIsRefused();
        weeksLapse();
        greatestCount();
        ranks();
        rankingIsRefused();
        check.finish();
    }

    private static void resultsAreRefused() {
        TouchLeague x = Check.withPlainFencers(1);
        long before = x.digest();
        check.refused(x, "no such fencer", before, x.result(1, 5, 5, 5), -2);
        check.refused(x, "fencer -1", before, x.result(-1, 5, 5, 5), -2);
        check.refused(x, "week -1", before, x.result(0, -1, 5, 5), -2);
        check.refused(x, "week 1000", before, x.result(0, 1000, 5, 1000), -2);
        check.refused(x, "points -1", before, x.result(0, 5, -1, 5), -2);
        check.refused(x, "points 1001", before, x.result(0, 5, 1001, 5), -2);
        check.refused(x, "known earlier", before, x.result(0, 5, 5, 4), -2);
        check.refused(x, "known 1000", before, x.result(0, 5, 5, 1000), -2);
        check.due("the least", x.result(0, 0, 0, 0), 1);
        check.due("the most", x.result(0, 999, 1000, 999), 2);
        for (int i = 3; i <= 60; i++) {
            check.due("result " + i, x.result(0, 5, 5, 6), i);
        }
        before = x.digest();
        check.refused(x, "result 61", before, x.result(0, 5, 5, 6), -4);
        check.refused(x, "BAD ahead of FULL", before, x.result(0, 5, 5, 4), -2);
    }

    private static void countedIsRefused() {
        TouchLeague x = new TouchLeague();
        check.due("5 at first", x.counted(10), 5);
        check.due("then that", x.counted(1), 10);
        long before = x.digest();
        check.refused(x, "k 0", before, x.counted(0), -2);
        check.refused(x, "k 11", before, x.counted(11), -2);
        check.due("unchanged", x.counted(5), 1);
    }

    private static void weeksLapse() {
        TouchLeague x = Check.withPlainFencers(2);
        x.result(0, 100, 7, 103);
        check.due("a week earlier", x.ranking(0, 99, 999, 0), 0);
        check.due("that week", x.ranking(0, 100, 999, 0), 7);
        check.due("51 behind", x.ranking(0, 151, 999, 0), 7);
        check.due("52 behind", x.ranking(0, 152, 999, 0), 0);
        check.due("not known yet", x.ranking(0, 110, 102, 0), 0);
        check.due("known", x.ranking(0, 110, 103, 0), 7);
        check.due("known later than the week asked", x.ranking(0, 101, 103, 0), 7);
        check.due("of another", x.ranking(1, 101, 103, 0), 0);
    }

    private static void greatestCount() {
        TouchLeague x = Check.withPlainFencers(1);
        int[] points = {3, 900, 40, 40, 5, 1000, 2, 60, 1, 70, 8, 9};
        for (int i = 0; i < points.length; i++) {
            x.result(0, 10 + i, points[i], 30);
        }
        int[] sums = {1000, 1900, 1970, 2030, 2070, 2110, 2119, 2127, 2132, 2135};
        for (int k = 1; k <= 10; k++) {
            x.counted(k);
            check.due("the greatest " + k, x.ranking(0, 30, 30, 0), sums[k - 1]);
        }
        check.due("fewer than k", x.ranking(0, 11, 30, 0), 903);
    }

    private static void ranks() {
        TouchLeague x = Check.withPlainFencers(4);
        x.result(0, 10, 50, 10);
        x.result(1, 10, 80, 10);
        x.result(2, 10, 50, 10);
        check.due("the first", x.ranking(1, 10, 10, 1), 1);
        check.due("alike", x.ranking(0, 10, 10, 1), 2);
        check.due("alike", x.ranking(2, 10, 10, 1), 2);
        check.due("behind all", x.ranking(3, 10, 10, 1), 4);
        check.due("a week ahead", x.ranking(3, 9, 10, 1), 1);
        check.due("not known", x.ranking(3, 10, 9, 1), 1);
        x.result(2, 11, 40, 12);
        check.due("more now", x.ranking(2, 12, 12, 1), 1);
        check.due("one down", x.ranking(1, 12, 12, 1), 2);
    }

    private static void rankingIsRefused() {
        TouchLeague x = Check.withPlainFencers(1);
        check.due("no such fencer", x.ranking(1, 5, 5, 0), -2);
        check.due("fencer -1", x.ranking(-1, 5, 5, 0), -2);
        check.due("week -1", x.ranking(0, -1, 5, 0), -2);
        check.due("week 1000", x.ranking(0, 1000, 5, 0), -2);
        check.due("known -1", x.ranking(0, 5, -1, 0), -2);
        check.due("known 1000", x.ranking(0, 5, 1000, 0), -2);
        check.due("what 2", x.ranking(0, 5, 5, 2), -2);
        check.due("what -1", x.ranking(0, 5, 5, -1), -2);
        check.due("known earlier than the week", x.ranking(0, 5, 0, 1), 1);
    }
}
