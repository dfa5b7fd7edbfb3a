/** Promises 29 to 31: pair, relay, bestOrder. */
public final class RelayTest {
    private static final int[] ORDERS = {12, 21, 102, 120, 201, 210};
    private static final int[][] TURNS = {{2, 2}, {0, 1}, {1, 0}, {2, 1}, {0, 0}, {1, 2}, {0, 2}, {1, 1}, {2, 0}};
    private static final Check check = new Check();

    public static void main(String[] args) {
        pairsAreRefused();
        turnsComeInOrder();
        turnsEnd();
        laterTurnsHaveMore();
        relaysAreRefused();
        bestOrders();
        check.finish();
    }

    private static void pairsAreRefused() {
        TouchLeague x = new TouchLeague();
        check.due("a 3", x.pair(3, 0, 1, 1), -2);
        check.due("a -1", x.pair(-1, 0, 1, 1), -2);
        check.due("b 3", x.pair(0, 3, 1, 1), -2);
        check.due("b -1", x.pair(0, -1, 1, 1), -2);
        check.due("many 16", x.pair(0, 0, 16, 1), -2);
        check.due("many -1", x.pair(0, 0, -1, 0), -2);
        check.due("bits -1", x.pair(0, 0, 3, -1), -2);
        check.due("bits beyond many", x.pair(0, 0, 3, 8), -2);
        check.due("bits beyond none", x.pair(0, 0, 0, 1), -2);
        check.due("nothing changed", x.relay(12, 9), 0);
        check.due("all the bits", x.pair(0, 0, 3, 7), 1);
        check.due("they came", x.relay(12, 9), 3);
        check.due("fifteen", x.pair(0, 0, 15, 32767), 1);
        check.due("none", x.pair(2, 2, 0, 0), 1);
        check.due("told anew", x.pair(0, 0, 0, 0), 1);
        check.due("nothing comes", x.relay(12, 9), 0);
    }

    /** One pair alone has a touch: it comes in the turn where the first team's place holds its fencer. */
    private static void turnsComeInOrder() {
        for (int order : ORDERS) {
            int[] at = {order / 100, order / 10 % 10, order % 10};
            for (int turn = 0; turn < 9; turn++) {
                TouchLeague x = new TouchLeague();
                x.pair(at[TURNS[turn][0]], TURNS[turn][1], 1, 1);
                check.due("ahead", turn == 0 ? 0 : x.relay(order, 2 * turn - 1), 0);
                check.due("order " + order + " turn " + turn, x.relay(order, 2 * turn + 1), 1);
                check.due("the first team's", x.relay(order, 2 * turn), 0);
                check.due("margin", x.relay(order, -1), -1);
            }
        }
    }

    private static void turnsEnd() {
        TouchLeague x = new TouchLeague();
        x.pair(2, 2, 15, 0b000000000000111);
        check.due("the second's come first", x.relay(12, 1), 3);
        check.due("till the first team has 5", x.relay(12, 0), 5);
        x.pair(2, 2, 15, 0b111111111111000);
        check.due("in order", x.relay(12, 0), 3);
        check.due("till the second team has 5", x.relay(12, 1), 5);
        x.pair(2, 2, 4, 0b0101);
        check.due("the row ends", x.relay(12, 0), 2);
        check.due("the row ends", x.relay(12, 1), 2);
    }

    private static void laterTurnsHaveMore() {
        TouchLeague x = new TouchLeague();
        for (int a = 0; a < 3; a++) {
            for (int b = 0; b < 3; b++) {
                x.pair(a, b, 15, 0);
            }
        }
        for (int turn = 0; turn < 9; turn++) {
            check.due("behind turn " + turn, x.relay(210, 2 * turn), 5 * (turn + 1));
        }
        check.due("forty five", x.relay(210, -1), 45);
        x.pair(2, 2, 0, 0);
        check.due("none in the first", x.relay(12, 0), 0);
        check.due("ten in the second", x.relay(12, 2), 10);
    }

    private static void relaysAreRefused() {
        TouchLeague x = new TouchLeague();
        int[] none = {-1, 0, 1, 2, 11, 13, 22, 111, 112, 122, 123, 200, 202, 211, 222, 1012, -12, 1000000012};
        for (int order : none) {
            check.due("order " + order, x.relay(order, -1), -1000);
        }
        check.due("what -2", x.relay(12, -2), -1000);
        check.due("what 17", x.relay(12, 17), 0);
        check.due("what 18", x.relay(12, 18), -1000);
    }

    private static void bestOrders() {
        TouchLeague x = new TouchLeague();
        check.due("of like ones the first", x.bestOrder(), 12);
        for (int order : ORDERS) {
            TouchLeague y = new TouchLeague();
            int last = order % 10, middle = order / 10 % 10;
            for (int a = 0; a < 3; a++) {
                y.pair(a, 2, 15, a == last ? 0 : 32767);
                y.pair(a, 1, a == middle ? 15 : 0, 0);
            }
            int best = bestByHand(y);
            check.due("best of order " + order, y.bestOrder(), best);
        }
        TouchLeague z = new TouchLeague();
        z.pair(1, 1, 15, 0);
        z.pair(1, 2, 15, 32767);
        check.due("a late turn holds more, but each pair comes once", z.bestOrder(), bestByHand(z));
        check.due("asking changes nothing", z.bestOrder(), bestByHand(z));
    }

    private static int bestByHand(TouchLeague x) {
        int best = ORDERS[0];
        for (int order : ORDERS) {
            if (x.relay(order, -1) > x.relay(best, -1)) {
                best = order;
            }
        }
        return best;
    }
}
