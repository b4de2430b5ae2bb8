import java.util.ArrayList;
import java.util.List;
import java.util.function.Consumer;
import java.util.function.ToLongFunction;

/** Two objects with one past: one is asked a call that must change nothing, then both are asked all that they hold. */
final class Twins {
    private final Due due;
    private final Consumer<RowsColumns> past;

    Twins(Due due, Consumer<RowsColumns> past) {
        this.due = due;
        this.past = past;
    }

    /** The call's answer is as due, and nothing is changed by it. */
    void same(String call, ToLongFunction<RowsColumns> asked, long want) {
        RowsColumns x = new RowsColumns();
        RowsColumns y = new RowsColumns();
        past.accept(x);
        past.accept(y);
        due.is(call, asked.applyAsLong(x), want);
        List<Long> held = held(x);
        List<Long> before = held(y);
        for (int i = 0; i < before.size(); i++) {
            due.is(call + " changed answer " + i, held.get(i), before.get(i));
        }
    }

    private static List<Long> held(RowsColumns x) {
        List<Long> all = new ArrayList<>();
        told(x, all);
        all.add((long) x.fault());
        all.add((long) x.torn());
        for (int what = 0; what < 6; what++) {
            all.add((long) x.count(what));
        }
        sheets(x, all);
        for (int k = 0; k < 2; k++) {
            all.add((long) x.back(k));
            all.add((long) x.rule(0));
            all.add((long) x.rule(1));
            all.add(x.cloth(0));
        }
        all.add((long) x.text());
        all.add((long) x.fault());
        told(x, all);
        return all;
    }

    private static void told(RowsColumns x, List<Long> all) {
        for (int what = 0; what < 5; what++) {
            all.add((long) x.rule(what));
        }
        all.add(x.cloth(0));
        all.add(x.cloth(1));
        for (int d = 0; d < x.rule(3); d++) {
            for (int i = -1; i < 3; i++) {
                all.add((long) x.day(d, i));
            }
        }
    }

    /** A cell is seen by the act that it is read as: pairs of cells, of each lane, then what the cloth became. */
    private static void sheets(RowsColumns x, List<Long> all) {
        for (int k = 0; k < 4; k++) {
            for (int lane = 0; lane < 3; lane++) {
                for (int f = 0; f < 4; f++) {
                    all.add((long) x.read(k, lane, f, 1));
                    all.add((long) x.torn());
                    all.add(x.cloth(0));
                }
            }
        }
    }
}
