import java.util.Random;

/** Random runs, the same ones each time: the class must answer each call as the oracle does. */
public final class RandomRunsTest {
    private static final int RUNS = 3000;
    private static final int TURNS = 512;
    private static final int[] ODD = {-1, -2, 24, 40, 99, Integer.MIN_VALUE, Integer.MAX_VALUE,
        Oracle.BAD, Oracle.NONE};
    private static final long[] VALUES = {0, 1, 2, 3, 4, -1, -4, 6, 9, 1L << 32, (1L << 32) + 1, -(1L << 32),
        Long.MAX_VALUE, Long.MIN_VALUE, Long.MAX_VALUE - 3, Long.MIN_VALUE + 3};
    private static final int[] MAKING = {0, 1, 1, 1, 1, 2, 2, 2, 3, 3, 4, 4, 5, 5, 5};

    private static final int[] broken = new int[6];
    private static int hiddenSeen = 0;
    private static int fixedSeen = 0;

    private final Random random;
    private final boolean largeGraphs;
    private final boolean tameValues;
    private final boolean forgetful;
    private final ViewsJoins x = new ViewsJoins();
    private final Oracle y = new Oracle();

    private RandomRunsTest(long seed) {
        random = new Random(seed);
        largeGraphs = seed % 2 == 0;
        tameValues = seed % 3 != 0;
        forgetful = seed % 5 == 0;
    }

    public static void main(String[] args) {
        Check check = new Check();
        for (int run = 0; run < RUNS; run++) {
            check.at("run with seed " + run);
            new RandomRunsTest(run).run(check);
        }
        // A source that never breaks a view in one of the ways would prove nothing of it.
        check.at("what the runs came to");
        for (int failure = 1; failure <= 5; failure++) {
            check.holds("broken by " + failure, broken[failure] > 50);
        }
        check.holds("hidden", hiddenSeen > 1000);
        check.holds("fixed", fixedSeen > 1000);
        System.out.println("broken by 1 to 5: " + broken[1] + " " + broken[2] + " " + broken[3] + " " + broken[4]
            + " " + broken[5] + ", hidden: " + hiddenSeen + ", fixed: " + fixedSeen);
        check.end();
    }

    private void run(Check check) {
        for (int call = 0; call < TURNS; call++) {
            if (call < 120 || chance(3)) {
                make(check, call);
            } else {
                look(check, call);
            }
        }
        for (int g = 0; g < y.count(0); g++) {
            int failure = y.told(g, 5);
            broken[failure]++;
            hiddenSeen += Math.max(0, y.told(g, 3));
            fixedSeen += 1 - y.told(g, 4);
        }
    }

    private boolean chance(int oneOf) {
        return random.nextInt(oneOf) == 0;
    }

    private int below(int bound) {
        return bound <= 0 ? 0 : random.nextInt(bound);
    }

    /** Mostly 0 .. bound - 1, at times bound itself or far off. */
    private int number(int bound) {
        int pick = random.nextInt(40);
        if (pick == 0) {
            return ODD[below(ODD.length)];
        }
        return pick == 1 ? bound : below(bound);
    }

    private int graph() {
        int graphs = y.count(0);
        return chance(3) ? Math.max(0, graphs - 1 - below(4)) : number(graphs);
    }

    private int nodeOf(int g) {
        return number(Math.max(y.told(g, 0), 1));
    }

    private int itemOf(int g, int what) {
        return number(Math.max(y.told(g, what == 1 ? 1 : 0), 1));
    }

    private long value() {
        if (tameValues && !chance(12)) {
            return 1 + below(4) - (chance(12) ? 1 : 0);
        }
        return chance(4) ? VALUES[below(VALUES.length)] : below(6);
    }

    private static void compare(Check check, int at, String call, long got, long want) {
        if (got != want) {
            check.due("call " + at + " " + call, got, want);
        } else {
            check.due("", 0, 0);
        }
    }

    private static String text(String name, long... args) {
        StringBuilder told = new StringBuilder(name);
        for (long arg : args) {
            told.append(' ').append(arg);
        }
        return told.toString();
    }

    private void make(Check check, int at) {
        switch (MAKING[below(MAKING.length)]) {
            case 0:
                makeGraph(check, at);
                break;
            case 1:
                makeArc(check, at);
                break;
            case 2:
                makeSet(check, at);
                break;
            case 3:
                makeLabel(check, at);
                break;
            case 4:
                makeTest(check, at);
                break;
            default:
                makeView(check, at);
                break;
        }
    }

    private void makeGraph(Check check, int at) {
        if (y.count(0) > 6 && !chance(6)) {
            return;
        }
        int n = chance(20) ? number(13) : 1 + below(largeGraphs ? 12 : 5);
        compare(check, at, text("graph", n), x.graph(n), y.graph(n));
    }

    private void makeArc(Check check, int at) {
        int g = baseGraph();
        int from = nodeOf(g);
        int to = nodeOf(g);
        long v = value();
        compare(check, at, text("arc", g, from, to, v), x.arc(g, from, to, v), y.arc(g, from, to, v));
    }

    private int baseGraph() {
        int g = graph();
        for (int tries = 0; tries < 8 && y.told(g, 2) != 0; tries++) {
            g = graph();
        }
        return g;
    }

    private void makeSet(Check check, int at) {
        int g = baseGraph();
        int what = number(2);
        int i = itemOf(g, what);
        long v = value();
        compare(check, at, text("set", g, what, i, v), x.set(g, what, i, v), y.set(g, what, i, v));
    }

    private void makeLabel(Check check, int at) {
        int table = chance(2) ? 0 : number(4);
        int i = chance(2) ? below(12) : number(40);
        int v = chance(2) ? below(3) : number(12) - 1;
        compare(check, at, text("label", table, i, v), x.label(table, i, v), y.label(table, i, v));
    }

    private void makeTest(Check check, int at) {
        int sort = number(9);
        long c = chance(2) ? below(13) : value();
        int t = number(y.count(1));
        int u = number(y.count(1));
        if (chance(2)) {
            t = Math.max(0, y.count(1) - 1 - below(3));
        }
        compare(check, at, text("test", sort, c, t, u), x.test(sort, c, t, u), y.test(sort, c, t, u));
    }

    private void makeView(Check check, int at) {
        int kind = chance(30) ? number(9) : 1 + below(7);
        int a = graph();
        int b = graph();
        int c = number(3);
        int d = number(2);
        if (kind == 1) {
            b = chance(4) ? -1 : number(y.count(1));
            c = chance(4) ? -1 : number(y.count(1));
        }
        if (kind == 7) {
            b = chance(2) ? 0 : number(4);
        }
        compare(check, at, text("view", kind, a, b, c, d), x.view(kind, a, b, c, d), y.view(kind, a, b, c, d));
    }

    private void look(Check check, int at) {
        int g = graph();
        int what = number(2);
        int which = number(2);
        int i = itemOf(g, what);
        switch (below(13)) {
            case 0:
                boolean live = chance(2);
                compare(check, at, text("live", g, live ? 1 : 0), x.live(g, live), y.live(g, live));
                break;
            case 1:
                int told = number(6);
                compare(check, at, text("told", g, told), x.told(g, told), y.told(g, told));
                break;
            case 2:
                int e = itemOf(g, 1);
                compare(check, at, text("end", g, e, which), x.end(g, e, which), y.end(g, e, which));
                break;
            case 3:
                compare(check, at, text("value", g, what, i), x.value(g, what, i), y.value(g, what, i));
                break;
            case 4:
                compare(check, at, text("up", g, what, i, which), x.up(g, what, i, which), y.up(g, what, i, which));
                break;
            case 5:
                compare(check, at, text("down", g, what, i, which),
                    x.down(g, what, i, which), y.down(g, what, i, which));
                break;
            case 6:
                int k = number(Math.max(1, y.told(g, 3)));
                int column = number(3);
                compare(check, at, text("hidden", g, k, column), x.hidden(g, k, column), y.hidden(g, k, column));
                break;
            case 7:
                int other = graph();
                compare(check, at, text("same", g, other), x.same(g, other), y.same(g, other));
                break;
            case 8:
                int s = nodeOf(g);
                compare(check, at, text("reach", g, s), x.reach(g, s), y.reach(g, s));
                break;
            case 9:
                int t = number(y.count(1));
                compare(check, at, text("ask", g, what, i, t), x.ask(g, what, i, t), y.ask(g, what, i, t));
                break;
            case 10:
                int counted = number(3);
                compare(check, at, text("count", counted), x.count(counted), y.count(counted));
                break;
            case 11:
                lookAtAll(check, at, g);
                break;
            default:
                if (forgetful && chance(8)) {
                    compare(check, at, "clear", x.clear(), y.clear());
                }
                break;
        }
    }

    /** Everything that can be told of one graph. */
    private void lookAtAll(Check check, int at, int g) {
        for (int what = 0; what <= 5; what++) {
            compare(check, at, text("told", g, what), x.told(g, what), y.told(g, what));
        }
        for (int what = 0; what <= 1; what++) {
            for (int i = 0; i < y.told(g, what); i++) {
                compare(check, at, text("value", g, what, i), x.value(g, what, i), y.value(g, what, i));
                for (int which = 0; which <= 1; which++) {
                    compare(check, at, text("up", g, what, i, which),
                        x.up(g, what, i, which), y.up(g, what, i, which));
                    if (what == 1) {
                        compare(check, at, text("end", g, i, which), x.end(g, i, which), y.end(g, i, which));
                    }
                }
            }
        }
        for (int k = 0; k < y.told(g, 3); k++) {
            for (int what = 0; what <= 2; what++) {
                compare(check, at, text("hidden", g, k, what), x.hidden(g, k, what), y.hidden(g, k, what));
            }
        }
    }
}
