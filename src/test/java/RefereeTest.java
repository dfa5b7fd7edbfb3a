/** Promises 25 to 28, 32 and 33: referee, service, serve, hours, judged, habit. */
public final class RefereeTest {
    private static final Check check = new Check();

    public static void main(String[] args) {
        refereesAreRefused();
        kinAreOut();
        leastHours();
        sumsOfHours();
        firstOfLikeOnes();
        deadEnds();
        noService();
        serviceIsRefused();
        notesAreRefused();
        notes();
        habits();
        check.finish();
    }

    private static void refereesAreRefused() {
        TouchLeague x = new TouchLeague();
        long before = x.digest();
        check.refused(x, "club 10", before, x.referee(10, 0), -2);
        check.refused(x, "club -1", before, x.referee(-1, 0), -2);
        check.refused(x, "land 6", before, x.referee(0, 6), -2);
        check.refused(x, "land -1", before, x.referee(0, -1), -2);
        for (int i = 0; i < 8; i++) {
            check.due("referee " + i, x.referee(9, 5), i);
            check.due("hours of " + i, x.hours(i), 0);
        }
        before = x.digest();
        check.refused(x, "referee 8", before, x.referee(9, 5), -4);
        check.refused(x, "BAD ahead of FULL", before, x.referee(10, 5), -2);
        check.due("hours of none", x.hours(8), -2);
        check.due("hours of -1", x.hours(-1), -2);
    }

    /** Fencers of clubs and lands 0 to 3, bouts 0 of 0 and 1, 1 of 2 and 3, 2 of 0 and 2. */
    private static TouchLeague threeBouts() {
        TouchLeague x = Check.withPlainFencers(4);
        x.bout(0, 1, -1, 5, 5, 0);
        x.bout(2, 3, -1, 5, 5, 0);
        x.bout(0, 2, -1, 5, 5, 0);
        return x;
    }

    private static void kinAreOut() {
        TouchLeague x = threeBouts();
        x.referee(0, 5);
        check.due("a club of the first", x.service(1, 0), -1);
        x.referee(1, 5);
        check.due("a club of the second", x.service(1, 0), -1);
        x.referee(9, 0);
        check.due("a land of the first", x.service(1, 0), -1);
        x.referee(9, 1);
        check.due("a land of the second", x.service(1, 0), -1);
        x.referee(2, 3);
        check.due("neither", x.service(1, 0), 4);
        check.due("the club of one tells nothing of another's land", x.service(2, 1), 0);
    }

    private static void leastHours() {
        TouchLeague x = threeBouts();
        x.referee(9, 5);
        x.referee(8, 5);
        x.referee(7, 5);
        check.due("the first", x.service(3, 0), 0);
        check.due("the second", x.service(3, 1), 1);
        check.due("not done by asking", x.hours(0), 0);
        check.due("two serve", x.serve(3), 2);
        check.due("an hour more", x.hours(0), 1);
        check.due("an hour more", x.hours(1), 1);
        check.due("none", x.hours(2), 0);
        check.due("who had fewest", x.service(2, 1), 2);
        check.due("of two the one who had fewest and the first", x.service(3, 0), 0);
        check.due("of two the one who had fewest", x.service(3, 1), 2);
        check.due("one serves", x.serve(4), 1);
        check.due("that one", x.hours(2), 1);
        check.due("three serve", x.serve(7), 3);
        check.due("one more", x.hours(1), 2);
        check.due("nobody serves at no bouts", x.serve(0), 0);
    }

    /** Who had none could serve at bout 0, but then one who had five must serve at bout 1: 2 and 0 is less. */
    private static void sumsOfHours() {
        TouchLeague x = threeBouts();
        x.referee(0, 5);
        x.referee(2, 5);
        for (int i = 0; i < 5; i++) {
            check.due("the one without kin at bout 1", x.serve(2), 1);
        }
        for (int i = 0; i < 2; i++) {
            check.due("the one without kin at bout 0", x.serve(1), 1);
        }
        x.referee(9, 5);
        check.due("five hours", x.hours(0), 5);
        check.due("two hours", x.hours(1), 2);
        check.due("two at bout 0", x.service(3, 0), 1);
        check.due("none at bout 1", x.service(3, 1), 2);
    }

    private static void firstOfLikeOnes() {
        TouchLeague x = threeBouts();
        x.referee(9, 5);
        x.referee(2, 5);
        check.due("0 would leave bout 1 without", x.service(3, 0), 1);
        check.due("0 would leave bout 1 without", x.service(3, 1), 0);
        x.referee(8, 4);
        check.due("now the first serves first", x.service(3, 0), 0);
        check.due("kin is out", x.service(3, 1), 2);
    }

    /** Whatever hours he has: who would leave a later bout without a referee does not serve at an earlier one. */
    private static void deadEnds() {
        for (int hours = 0; hours <= 3; hours++) {
            TouchLeague x = threeBouts();
            x.referee(9, 5);
            for (int i = 0; i < hours; i++) {
                check.due("alone at bout 1", x.serve(2), 1);
            }
            x.referee(2, 5);
            check.due("bout 0 of one with " + hours, x.service(3, 0), 1);
            check.due("bout 1 of one with " + hours, x.service(3, 1), 0);
            check.due("both serve", x.serve(3), 2);
            check.due("hours of the first", x.hours(0), hours + 1);
            check.due("hours of the second", x.hours(1), 1);
            check.due("no third one", x.serve(7), -1);
        }
    }

    private static void noService() {
        TouchLeague x = threeBouts();
        check.due("no referee", x.service(1, 0), -1);
        x.referee(9, 5);
        long before = x.digest();
        check.refused(x, "more bouts than referees", before, x.service(3, 1), -1);
        check.refused(x, "none serves", before, x.serve(3), -1);
        x.referee(8, 2);
        check.due("two for two", x.service(3, 0), 1);
        x.referee(7, 2);
        before = x.digest();
        check.refused(x, "two have kin in the same two", before, x.serve(7), -1);
    }

    private static void serviceIsRefused() {
        TouchLeague x = threeBouts();
        x.referee(9, 5);
        check.due("not there", x.service(8, 3), -2);
        check.due("one not there", x.service(9, 0), -2);
        check.due("not one of them", x.service(1, 1), -2);
        check.due("none of none", x.service(0, 0), -2);
        check.due("bout -1", x.service(1, -1), -2);
        check.due("bout 32", x.service(1, 32), -2);
        check.due("below 0", x.service(-1, 0), -2);
        check.due("serve: not there", x.serve(8), -2);
        check.due("serve: below 0", x.serve(Integer.MIN_VALUE), -2);
        for (int i = 3; i < 33; i++) {
            x.bout(0, 1, -1, 5, 5, 0);
        }
        check.due("bout 29", x.service(1 << 29, 29), 0);
        check.due("bout 30", x.service(1 << 30, 30), -2);
        check.due("serve: bout 30", x.serve(1 << 30), -2);
        check.due("eight", x.serve(255), -1);
        check.due("nine", x.serve(511), -2);
        check.due("nine", x.service(511, 0), -2);
        for (int i = 1; i < 8; i++) {
            x.referee(9, 5);
        }
        check.due("eight", x.service(255 << 3, 10), 7);
        check.due("eight serve", x.serve(255 << 22), 8);
        x.tear(0, true);
        check.due("a void bout is there still", x.service(1, 0), 0);
    }

    private static TouchLeague threeReferees() {
        TouchLeague x = new TouchLeague();
        for (int i = 0; i < 3; i++) {
            x.referee(i, i);
        }
        return x;
    }

    private static void notesAreRefused() {
        TouchLeague x = threeReferees();
        long before = x.digest();
        check.refused(x, "alike", before, x.judged(1, 1, 0, 1), -2);
        check.refused(x, "first not there", before, x.judged(3, 1, 0, 1), -2);
        check.refused(x, "second not there", before, x.judged(1, 3, 0, 1), -2);
        check.refused(x, "first -1", before, x.judged(-1, 1, 0, 1), -2);
        check.refused(x, "told 2", before, x.judged(0, 1, 2, 1), -2);
        check.refused(x, "told -2", before, x.judged(0, 1, -2, 1), -2);
        check.refused(x, "other 2", before, x.judged(0, 1, 0, 2), -2);
        check.refused(x, "other -2", before, x.judged(0, 1, 0, -2), -2);
        for (int i = 1; i <= 60; i++) {
            check.due("note " + i, x.judged(0, 1, 0, 0), i);
        }
        before = x.digest();
        check.refused(x, "note 61", before, x.judged(0, 1, 0, 1), -4);
        check.refused(x, "BAD ahead of FULL", before, x.judged(0, 0, 0, 1), -2);
        check.due("unchanged", x.habit(0, 0), 0);
        check.due("no such referee", x.habit(3, 0), -10);
        check.due("referee -1", x.habit(-1, 0), -10);
        check.due("what 4", x.habit(0, 4), -10);
        check.due("what -1", x.habit(0, -1), -10);
    }

    private static void habit(TouchLeague x, int referee, int n, int q, int p, int habit) {
        check.due("n of " + referee, x.habit(referee, 0), n);
        check.due("q of " + referee, x.habit(referee, 1), q);
        check.due("p of " + referee, x.habit(referee, 2), p);
        check.due("habit of " + referee, x.habit(referee, 3), habit);
    }

    private static void notes() {
        TouchLeague x = threeReferees();
        x.judged(0, 1, 0, 0);
        x.judged(0, 1, -1, -1);
        habit(x, 0, 0, 0, 0, 0);
        x.judged(0, 1, 1, -1);
        habit(x, 0, 1, 0, 0, 0);
        x.judged(0, 1, 0, -1);
        x.judged(2, 0, 0, 1);
        habit(x, 0, 3, 1, 1, 0);
        habit(x, 1, 2, 0, 1, 0);
        habit(x, 2, 1, 1, 0, 0);
    }

    private static int habitOf(int q, int p) {
        TouchLeague x = threeReferees();
        for (int i = 0; i < q; i++) {
            x.judged(0, 1, 0, i % 2 == 0 ? 1 : -1);
        }
        for (int i = 0; i < p; i++) {
            x.judged(2, 0, 0, i % 2 == 0 ? 1 : -1);
        }
        return x.habit(0, 3);
    }

    /** Chances: 4 of 4 is 1 by 16, 5 of 5 1 by 32, 7 of 8 9 by 256, 6 of 7 8 by 128, 8 of 10 56 by 1024. */
    private static void habits() {
        check.due("4 of 4", habitOf(4, 0), 0);
        check.due("5 of 5", habitOf(5, 0), 1);
        check.due("0 of 5", habitOf(0, 5), -1);
        check.due("6 of 7", habitOf(6, 1), 0);
        check.due("7 of 8", habitOf(7, 1), 1);
        check.due("1 of 8", habitOf(1, 7), -1);
        check.due("8 of 10", habitOf(8, 2), 0);
        check.due("9 of 10", habitOf(9, 1), 1);
        check.due("15 of 20", habitOf(15, 5), 1);
        check.due("14 of 20", habitOf(14, 6), 0);
        check.due("30 of 60", habitOf(30, 30), 0);
        check.due("20 of 30: 0.0494", habitOf(20, 10), 1);
        check.due("13 of 18: 0.0481", habitOf(5, 13), -1);
        check.due("29 of 46: 0.0519", habitOf(29, 17), 0);
        check.due("36 of 60", habitOf(36, 24), 0);
        check.due("37 of 60", habitOf(37, 23), 1);
        check.due("23 of 60", habitOf(23, 37), -1);
        check.due("60 of 60", habitOf(60, 0), 1);
        check.due("0 of 60", habitOf(0, 60), -1);
    }
}
