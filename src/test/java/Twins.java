import java.util.ArrayList;
import java.util.List;
import java.util.function.Supplier;

/**
 * Two objects that were told the same, but one of them a call more, which is refused: from then on both must answer
 * alike. So is seen what the digest does not hold: pairs, notes, images, the last times of acts and of events.
 * What is told and what is asked stays below the 512 calls that an object is good for.
 */
final class Twins {
    interface Call {
        long on(TouchLeague x);
    }

    interface NumberCall {
        long on(TouchLeague x, int number);
    }

    private final Check check;
    private final String name;
    private final Supplier<TouchLeague> told;
    private final List<Long> due;

    Twins(Check check, String name, Supplier<TouchLeague> told) {
        this.check = check;
        this.name = name;
        this.told = told;
        this.due = answers(told.get());
    }

    void refuse(String what, long want, Call call) {
        TouchLeague x = told.get();
        check.due(name + ": " + what, call.on(x), want);
        List<Long> got = answers(x);
        for (int i = 0; i < due.size(); i++) {
            check.due(name + ": answer " + i + " behind " + what, got.get(i), due.get(i));
        }
    }

    /** The values just outside of the bounds, and the least and the greatest that there are. */
    void refuseOutside(String what, int least, int most, long want, NumberCall call) {
        refuseEach(what, want, call, least - 1, most + 1, Integer.MIN_VALUE, Integer.MAX_VALUE);
    }

    void refuseEach(String what, long want, NumberCall call, int... numbers) {
        for (int number : numbers) {
            refuse(what + " " + number, want, x -> call.on(x, number));
        }
    }

    /** For any state: what it tells, what it takes, and, as its images are looked at last, what they tell. */
    private static List<Long> answers(TouchLeague x) {
        List<Long> all = new ArrayList<>();
        all.add(x.digest());
        for (int weapon = 0; weapon <= 2; weapon++) {
            all.add((long) x.touch(weapon));
            all.add((long) x.line(weapon, 9999));
        }
        for (int order : new int[] {12, 120, 201}) {
            all.add((long) x.relay(order, -1));
            all.add((long) x.relay(order, 9));
        }
        all.add((long) x.bestOrder());
        for (int referee = 0; referee < 3; referee++) {
            for (int what = 0; what <= 3; what++) {
                all.add((long) x.habit(referee, what));
            }
        }
        all.add((long) x.order(0, 0));
        all.add((long) x.fault(1));
        all.add((long) x.ranking(0, 40, 40, 0));
        takes(x, all);
        for (int i = 0; i <= 1; i++) {
            all.add((long) x.from(i));
            all.add(x.digest());
            all.add((long) x.relay(12, -1));
            all.add((long) x.habit(0, 1));
            takes(x, all);
        }
        return all;
    }

    /** What comes at the last times told must be taken, what comes at the time ahead of these must not. */
    private static void takes(TouchLeague x, List<Long> all) {
        all.add((long) x.act(0, 3, 499));
        all.add((long) x.act(0, 3, 500));
        all.add((long) x.event(0, 2, 0, 49));
        all.add((long) x.event(0, 2, 0, 50));
        all.add((long) x.event(4, 2, 0, 0));
        all.add(x.digest());
    }
}
