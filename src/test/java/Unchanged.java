import java.util.ArrayList;
import java.util.List;
import java.util.function.Consumer;
import java.util.function.ToLongFunction;

/**
 * Looks whether a call that is refused has changed anything: all that can be asked of an object is asked
 * with and without that call. Each part is asked of a new object, so that none has too many calls.
 */
final class Unchanged {
    private final Check check;
    private final Consumer<Counted> world;
    private final List<Long> before;

    Unchanged(Check check, Consumer<Counted> world) {
        this.check = check;
        this.world = world;
        this.before = all(world);
    }

    /** The call must answer what is due, and nothing has changed then. */
    void refused(String text, ToLongFunction<Counted> call, long want) {
        check.due(text, call.applyAsLong(made(world)), want);
        List<Long> after = all(world.andThen(x -> call.applyAsLong(x)));
        check.holds(text + ", nothing has changed", before.equals(after));
    }

    /** The call must answer what is due, and something has changed then: else refused() would prove nothing. */
    void done(String text, ToLongFunction<Counted> call, long want) {
        check.due(text, call.applyAsLong(made(world)), want);
        List<Long> after = all(world.andThen(x -> call.applyAsLong(x)));
        check.holds(text + ", something has changed", !before.equals(after));
    }

    private static Counted made(Consumer<Counted> run) {
        Counted x = new Counted();
        run.accept(x);
        return x;
    }

    private static List<Long> all(Consumer<Counted> run) {
        List<Long> seen = new ArrayList<>();
        Counted counted = made(run);
        for (int what = 0; what <= 2; what++) {
            seen.add((long) counted.count(what));
        }
        int graphs = counted.count(0);
        int tests = counted.count(1);
        seen.add((long) counted.clear());
        labels(made(run), seen);
        for (int t = 0; t < tests; t++) {
            answers(made(run), t, seen);
        }
        for (int g = 0; g < graphs; g++) {
            items(made(run), g, seen);
            nextArc(made(run), g, seen);
        }
        nextNumbers(made(run), seen);
        return seen;
    }

    private static void labels(Counted x, List<Long> seen) {
        for (int table = 0; table < 4; table++) {
            for (int i = 0; i < 40; i++) {
                seen.add((long) x.label(table, i, -1));
            }
        }
    }

    private static void answers(Counted x, int t, List<Long> seen) {
        for (int what = 0; what <= 1; what++) {
            for (int i = 0; i < 3; i++) {
                seen.add((long) x.ask(0, what, i, t));
            }
        }
    }

    private static void items(Counted x, int g, List<Long> seen) {
        for (int what = 0; what <= 5; what++) {
            seen.add((long) x.told(g, what));
        }
        for (int what = 0; what <= 1; what++) {
            int many = x.told(g, what);
            for (int i = 0; i < many; i++) {
                seen.add(x.value(g, what, i));
                for (int which = 0; which <= 1; which++) {
                    seen.add((long) x.up(g, what, i, which));
                    seen.add((long) (what == 1 ? x.end(g, i, which) : 0));
                }
            }
        }
        int hidden = x.told(g, 3);
        for (int k = 0; k < hidden; k++) {
            for (int what = 0; what <= 2; what++) {
                seen.add((long) x.hidden(g, k, what));
            }
        }
        // A FIXED one shows what it is of when it is LIVE again.
        seen.add((long) x.live(g, true));
        seen.add((long) x.told(g, 1));
        seen.add(x.value(g, 1, 0));
    }

    private static void nextArc(Counted x, int g, List<Long> seen) {
        seen.add((long) x.arc(g, 0, 0, 1));
        seen.add((long) x.told(g, 1));
    }

    private static void nextNumbers(Counted x, List<Long> seen) {
        seen.add((long) x.test(0, 1, 0, 0));
        seen.add((long) x.view(2, 0, 0, 0, 0));
        seen.add((long) x.graph(1));
    }
}
