import java.util.function.Consumer;
import java.util.function.ToLongFunction;

/**
 * The promises 1 to 19, each with the calls that it refuses: which of the answers below 0 comes first where
 * several fit, that nothing has changed then, and the last that is not refused, beside the first that is.
 */
public final class EdgesOfCallsTest {
    private static final int BAD = Edges.BAD, FULL = Edges.FULL, BROKEN = Edges.BROKEN, NONE = Edges.NONE;
    private static final int NODE = Edges.NODE, ARC = Edges.ARC;
    private static final int FAR_BELOW = Integer.MIN_VALUE, FAR_ABOVE = Integer.MAX_VALUE;

    // The graphs of world(), by what they are.
    private static final int BASE = 0, BASE_B = 1, HIDING = 2, BROKEN_BY_DIVISION = 3, FIXED = 4, JOINED = 5,
        LESS = 6, PRODUCT = 7, LINES = 8, GATHERED = 9, OF_BROKEN = 10, NO_GRAPH = 11;
    private static final int NO_TEST = 3;

    private static final Check check = new Check();
    private static final Unchanged ordinary = new Unchanged(check, EdgesOfCallsTest::world);

    public static void main(String[] args) {
        promise1NewObject();
        promise2Graph();
        promise3Arc();
        promise4Set();
        promise5Label();
        promise6Test();
        promise7ViewArguments();
        promise7ViewUnread();
        promise7ViewFull();
        promise8Live();
        promise9Told();
        promise10End();
        promise11Value();
        promise12Up();
        promise13Down();
        promise14Hidden();
        promise15Same();
        promise16Reach();
        promise17Ask();
        promise18Count();
        promise19Clear();
        check.end();
    }

    /** Two base graphs, a view of each kind, a broken one, one of that, a fixed one; three tests; four labels. */
    private static void world(Counted x) {
        x.graph(3);
        x.graph(2);
        x.set(BASE, NODE, 0, 1);
        x.set(BASE, NODE, 2, 2);
        x.arc(BASE, 0, 1, 5);
        x.arc(BASE, 0, 2, 2);
        x.arc(BASE, 2, 2, 0);
        x.arc(BASE_B, 1, 0, 7);
        x.arc(BASE_B, 0, 1, 8);
        x.label(0, 0, 3);
        x.label(0, 1, 3);
        x.label(0, 2, 9);
        x.label(3, 39, 0);
        x.test(1, 4, 0, 0);
        x.test(0, 0, 0, 0);
        x.test(5, 0, 0, 1);
        x.view(Edges.FILTER, BASE, 0, 0, 0);
        x.view(Edges.FILTER, BASE, 0, -1, 1);
        x.view(Edges.TURNED, BASE, 0, 0, 0);
        x.live(FIXED, false);
        x.set(BASE, ARC, 0, 4);
        x.view(Edges.JOINED, BASE, BASE_B, 0, 0);
        x.view(Edges.LESS, BASE, BASE_B, 0, 0);
        x.view(Edges.PRODUCT, BASE, BASE_B, 2, 0);
        x.view(Edges.LINES, BASE, 0, 0, 0);
        x.view(Edges.GATHERED, BASE, 0, 0, 0);
        x.view(Edges.TURNED, BROKEN_BY_DIVISION, 0, 0, 0);
    }

    private static void fullOfGraphs(Counted x) {
        world(x);
        for (int g = NO_GRAPH; g < 24; g++) {
            x.view(Edges.TURNED, g - 1, 0, 0, 0);
        }
    }

    private static void fullOfTests(Counted x) {
        world(x);
        for (int t = NO_TEST; t < 20; t++) {
            x.test(0, t, 0, 0);
        }
    }

    private static void fullOfArcs(Counted x) {
        world(x);
        for (int e = 2; e < 30; e++) {
            x.arc(BASE_B, 1, 1, e);
        }
    }

    private static void due(String call, long got, long want) {
        check.due(call, got, want);
    }

    private static Counted ordinaryObject() {
        Counted x = new Counted();
        world(x);
        return x;
    }

    private static void refused(String text, ToLongFunction<Counted> call, long want) {
        ordinary.refused(text, call, want);
    }

    private static void done(String text, ToLongFunction<Counted> call, long want) {
        ordinary.done(text, call, want);
    }

    /** A call with one number that is wrong: just outside on each side, and far off. */
    private interface WithNumber {
        long of(Counted x, int number);
    }

    private static void refusedOutside(String text, int least, int most, WithNumber call, long want) {
        int[] wrong = {least - 1, most + 1, FAR_BELOW, FAR_ABOVE};
        for (int number : wrong) {
            refused(text + " " + number, x -> call.of(x, number), want);
        }
    }

    private static void promise1NewObject() {
        check.at("1: No GRAPHS, no TESTS; all LABELS -1");
        Counted x = new Counted();
        for (int what = 0; what <= 2; what++) {
            due("count(" + what + ")", x.count(what), 0);
        }
        for (int what = 0; what <= 5; what++) {
            due("told", x.told(0, what), BAD);
        }
        due("arc", x.arc(0, 0, 0, 1), BAD);
        due("set", x.set(0, 0, 0, 1), BAD);
        due("end", x.end(0, 0, 0), BAD);
        due("value", x.value(0, 0, 0), BAD);
        due("up", x.up(0, 0, 0, 0), BAD);
        due("down", x.down(0, 0, 0, 0), BAD);
        due("hidden", x.hidden(0, 0, 0), BAD);
        due("same", x.same(0, 0), BAD);
        due("reach", x.reach(0, 0), BAD);
        due("ask", x.ask(0, 0, 0, 0), BAD);
        due("live", x.live(0, true), BAD);
        due("live", x.live(0, false), BAD);
        for (int kind = 1; kind <= 7; kind++) {
            due("view of kind " + kind, x.view(kind, 0, 0, 0, 0), BAD);
        }
        for (int sort = 4; sort <= 8; sort++) {
            due("test of sort " + sort, x.test(sort, 0, 0, 0), BAD);
        }
        due("clear", x.clear(), 0);
        for (int table = 0; table < 4; table++) {
            for (int i = 0; i < 40; i++) {
                due("label", x.label(table, i, 9), -1);
            }
        }
        due("still none", x.count(0) + x.count(1) + x.count(2), 0);
        Counted other = new Counted();
        due("another object has its own", other.label(0, 0, 9), -1);
    }

    private static void promise2Graph() {
        check.at("2 graph: BAD; FULL");
        refusedOutside("graph", 1, 12, (x, n) -> x.graph(n), BAD);
        done("the least", x -> x.graph(1), NO_GRAPH);
        done("the most", x -> x.graph(12), NO_GRAPH);
        Unchanged full = new Unchanged(check, EdgesOfCallsTest::fullOfGraphs);
        full.refused("FULL", x -> x.graph(1), FULL);
        full.refused("FULL", x -> x.graph(12), FULL);
        full.refused("BAD ahead of FULL", x -> x.graph(0), BAD);
        full.refused("BAD ahead of FULL", x -> x.graph(13), BAD);
    }

    private static void promise3Arc() {
        check.at("3 arc: BAD: also a VIEW; FULL: 30");
        done("an arc", x -> x.arc(BASE, 2, 2, 1), 3);
        refusedOutside("g", 0, NO_GRAPH - 1, (x, g) -> x.arc(g, 0, 0, 1), BAD);
        for (int view = HIDING; view < NO_GRAPH; view++) {
            int g = view;
            refused("a VIEW " + g, x -> x.arc(g, 0, 0, 1), BAD);
        }
        refusedOutside("from", 0, 2, (x, from) -> x.arc(BASE, from, 0, 1), BAD);
        refusedOutside("to", 0, 2, (x, to) -> x.arc(BASE, 0, to, 1), BAD);
        Unchanged full = new Unchanged(check, EdgesOfCallsTest::fullOfArcs);
        full.refused("FULL", x -> x.arc(BASE_B, 0, 1, 1), FULL);
        full.refused("BAD ahead of FULL: from", x -> x.arc(BASE_B, 2, 1, 1), BAD);
        full.refused("BAD ahead of FULL: from", x -> x.arc(BASE_B, -1, 1, 1), BAD);
        full.refused("BAD ahead of FULL: to", x -> x.arc(BASE_B, 1, 2, 1), BAD);
        full.refused("BAD ahead of FULL: to", x -> x.arc(BASE_B, 1, -1, 1), BAD);
        full.done("another graph is not FULL", x -> x.arc(BASE, 0, 1, 1), 3);
        full.done("nor are its VALUES", x -> x.set(BASE_B, ARC, 29, 1), 1);
    }

    private static void promise4Set() {
        check.at("4 set: BAD: also a VIEW");
        done("the first node", x -> x.set(BASE, NODE, 0, 9), 1);
        done("the last node", x -> x.set(BASE, NODE, 2, 9), 1);
        done("the first arc", x -> x.set(BASE, ARC, 0, 9), 1);
        done("the last arc", x -> x.set(BASE, ARC, 2, 9), 1);
        refused("as it is: nothing to change", x -> x.set(BASE, ARC, 2, 0), 1);
        refusedOutside("g", 0, NO_GRAPH - 1, (x, g) -> x.set(g, NODE, 0, 9), BAD);
        for (int view = HIDING; view < NO_GRAPH; view++) {
            int g = view;
            refused("a VIEW's node " + g, x -> x.set(g, NODE, 0, 9), BAD);
            refused("a VIEW's arc " + g, x -> x.set(g, ARC, 0, 9), BAD);
        }
        refusedOutside("what", 0, 1, (x, what) -> x.set(BASE, what, 0, 9), BAD);
        refusedOutside("node", 0, 2, (x, i) -> x.set(BASE, NODE, i, 9), BAD);
        refusedOutside("arc", 0, 2, (x, i) -> x.set(BASE, ARC, i, 9), BAD);
        refusedOutside("node of the smaller one", 0, 1, (x, i) -> x.set(BASE_B, NODE, i, 9), BAD);
    }

    private static void promise5Label() {
        check.at("5 label (i 0 .. 39): what it was. BAD: -2");
        done("another", x -> x.label(0, 0, 4), 3);
        done("the last of the last", x -> x.label(3, 39, 9), 0);
        done("the first of the last", x -> x.label(3, 0, 0), -1);
        done("the last of the first", x -> x.label(0, 39, 9), -1);
        done("taken away", x -> x.label(0, 2, -1), 9);
        refused("the same: nothing to change", x -> x.label(0, 2, 9), 9);
        refusedOutside("table", 0, 3, (x, table) -> x.label(table, 0, 4), -2);
        refusedOutside("i", 0, 39, (x, i) -> x.label(0, i, 4), -2);
        refusedOutside("v", -1, 9, (x, v) -> x.label(0, 0, v), -2);
        refused("all three", x -> x.label(4, 40, 10), -2);
        refused("all three", x -> x.label(-1, -1, -2), -2);
    }

    private static void promise6Test() {
        check.at("6 test: (0 .. 8). BAD: also parts that the sort has, if they are none; FULL");
        refusedOutside("sort", 0, 8, (x, sort) -> x.test(sort, 0, 0, 0), BAD);
        Unchanged full = new Unchanged(check, EdgesOfCallsTest::fullOfTests);
        for (int each = 0; each <= 8; each++) {
            int sort = each;
            done("sort " + sort, x -> x.test(sort, 0, NO_TEST - 1, NO_TEST - 1), NO_TEST);
            full.refused("FULL, sort " + sort, x -> x.test(sort, 0, 19, 19), FULL);
            if (sort >= 4) {
                refusedOutside("t, sort " + sort, 0, NO_TEST - 1, (x, t) -> x.test(sort, 0, t, 0), BAD);
                full.refused("BAD ahead of FULL: t", x -> x.test(sort, 0, 20, 0), BAD);
                full.refused("BAD ahead of FULL: t", x -> x.test(sort, 0, -1, 0), BAD);
            } else {
                done("t is not looked at, sort " + sort, x -> x.test(sort, 0, FAR_BELOW, 0), NO_TEST);
                full.refused("t is not looked at", x -> x.test(sort, 0, 20, 0), FULL);
            }
            if (sort == 5 || sort == 6) {
                refusedOutside("u, sort " + sort, 0, NO_TEST - 1, (x, u) -> x.test(sort, 0, 0, u), BAD);
                full.refused("BAD ahead of FULL: u", x -> x.test(sort, 0, 0, 20), BAD);
                full.refused("BAD ahead of FULL: u", x -> x.test(sort, 0, 0, -1), BAD);
            } else {
                done("u is not looked at, sort " + sort, x -> x.test(sort, 0, 0, FAR_ABOVE), NO_TEST);
                full.refused("u is not looked at", x -> x.test(sort, 0, 0, -1), FULL);
            }
        }
        full.refused("BAD ahead of FULL: sort", x -> x.test(9, 0, 0, 0), BAD);
        full.refused("BAD ahead of FULL: sort", x -> x.test(-1, 0, 0, 0), BAD);
    }

    private static void promise7ViewArguments() {
        check.at("7 view of a KIND (1 .. 7): BAD");
        refusedOutside("kind", 1, 7, (x, kind) -> x.view(kind, BASE, 0, 0, 0), BAD);
        for (int each = 1; each <= 7; each++) {
            int kind = each;
            refusedOutside("a, kind " + kind, 0, NO_GRAPH - 1, (x, a) -> x.view(kind, a, 0, 0, 0), BAD);
            done("a is the last, kind " + kind, x -> x.view(kind, NO_GRAPH - 1, 0, 0, 0), NO_GRAPH);
            done("of a BROKEN one, kind " + kind, x -> x.view(kind, BROKEN_BY_DIVISION, 0, 0, 0), NO_GRAPH);
        }
        for (int each = 3; each <= 5; each++) {
            int kind = each;
            refusedOutside("b, kind " + kind, 0, NO_GRAPH - 1, (x, b) -> x.view(kind, 0, b, 0, 0), BAD);
            done("b is the last, kind " + kind, x -> x.view(kind, 0, NO_GRAPH - 1, 0, 0), NO_GRAPH);
        }
        refusedOutside("s", -1, NO_TEST - 1, (x, s) -> x.view(Edges.FILTER, BASE, s, 0, 0), BAD);
        refusedOutside("t", -1, NO_TEST - 1, (x, t) -> x.view(Edges.FILTER, BASE, 0, t, 0), BAD);
        refusedOutside("mode", 0, 1, (x, mode) -> x.view(Edges.FILTER, BASE, 0, 0, mode), BAD);
        done("the least", x -> x.view(Edges.FILTER, BASE, -1, -1, 0), NO_GRAPH);
        done("the most", x -> x.view(Edges.FILTER, BASE, NO_TEST - 1, NO_TEST - 1, 1), NO_GRAPH);
        refusedOutside("sort", 0, 2, (x, sort) -> x.view(Edges.PRODUCT, BASE, 0, sort, 0), BAD);
        done("the most", x -> x.view(Edges.PRODUCT, BASE, BASE_B, 2, 0), NO_GRAPH);
        refusedOutside("table", 0, 3, (x, table) -> x.view(Edges.GATHERED, BASE, table, 0, 0), BAD);
        refusedOutside("rule", 0, 2, (x, rule) -> x.view(Edges.GATHERED, BASE, 0, rule, 0), BAD);
        done("the most", x -> x.view(Edges.GATHERED, BASE, 3, 2, 0), NO_GRAPH);
        Counted x = ordinaryObject();
        due("its number, also if it is BROKEN", x.view(Edges.PRODUCT, PRODUCT, PRODUCT, 2, 0), NO_GRAPH);
        due("it is", x.told(NO_GRAPH, 5), Edges.LARGE);
    }

    private static void promise7ViewUnread() {
        check.at("7 view (what a KIND has not is not looked at)");
        int[] odd = {FAR_BELOW, -1, 99, FAR_ABOVE};
        for (int number : odd) {
            Counted x = ordinaryObject();
            due("TURNED", x.view(Edges.TURNED, BASE, number, number, number), 11);
            due("LINES", x.view(Edges.LINES, BASE, number, number, number), 12);
            due("JOINED", x.view(Edges.JOINED, BASE, BASE_B, number, number), 13);
            due("LESS", x.view(Edges.LESS, BASE, BASE_B, number, number), 14);
            due("PRODUCT", x.view(Edges.PRODUCT, BASE, BASE_B, 2, number), 15);
            due("GATHERED", x.view(Edges.GATHERED, BASE, 0, 0, number), 16);
            due("as with 0: LINES", x.same(12, LINES), 1);
            due("as with 0: JOINED", x.same(13, JOINED), 1);
            due("as with 0: LESS", x.same(14, LESS), 1);
            due("as with 0: PRODUCT", x.same(15, PRODUCT), 1);
            due("as with 0: GATHERED", x.same(16, GATHERED), 1);
        }
    }

    private static void promise7ViewFull() {
        check.at("7 view: BAD; FULL");
        Unchanged full = new Unchanged(check, EdgesOfCallsTest::fullOfGraphs);
        for (int each = 1; each <= 7; each++) {
            int kind = each;
            full.refused("FULL, kind " + kind, x -> x.view(kind, 0, 0, 0, 0), FULL);
            full.refused("BAD ahead of FULL: a", x -> x.view(kind, 24, 0, 0, 0), BAD);
            full.refused("BAD ahead of FULL: a", x -> x.view(kind, -1, 0, 0, 0), BAD);
        }
        for (int each = 3; each <= 5; each++) {
            int kind = each;
            full.refused("BAD ahead of FULL: b", x -> x.view(kind, 0, 24, 0, 0), BAD);
        }
        full.refused("FULL, of a BROKEN one", x -> x.view(Edges.TURNED, BROKEN_BY_DIVISION, 0, 0, 0), FULL);
        full.refused("BAD ahead of FULL: kind", x -> x.view(0, 0, 0, 0, 0), BAD);
        full.refused("BAD ahead of FULL: kind", x -> x.view(8, 0, 0, 0, 0), BAD);
        full.refused("BAD ahead of FULL: s", x -> x.view(Edges.FILTER, 0, NO_TEST, 0, 0), BAD);
        full.refused("BAD ahead of FULL: t", x -> x.view(Edges.FILTER, 0, 0, -2, 0), BAD);
        full.refused("BAD ahead of FULL: mode", x -> x.view(Edges.FILTER, 0, 0, 0, 2), BAD);
        full.refused("BAD ahead of FULL: sort", x -> x.view(Edges.PRODUCT, 0, 0, 3, 0), BAD);
        full.refused("BAD ahead of FULL: table", x -> x.view(Edges.GATHERED, 0, 4, 0, 0), BAD);
        full.refused("BAD ahead of FULL: rule", x -> x.view(Edges.GATHERED, 0, 0, 3, 0), BAD);
    }

    private static void promise8Live() {
        check.at("8 live: 1; 0: it was so (it stays). BAD: also a BASE one; BROKEN: it can't be FIXED");
        boolean[] both = {true, false};
        for (boolean live : both) {
            refusedOutside("g", 0, NO_GRAPH - 1, (x, g) -> x.live(g, live), BAD);
            refused("a BASE one", x -> x.live(BASE, live), BAD);
            refused("a BASE one", x -> x.live(BASE_B, live), BAD);
        }
        int[] views = {HIDING, JOINED, LESS, PRODUCT, LINES, GATHERED};
        for (int view : views) {
            refused("it was LIVE, " + view, x -> x.live(view, true), 0);
            done("now FIXED, " + view, x -> x.live(view, false), 1);
        }
        refused("it was FIXED", x -> x.live(FIXED, false), 0);
        done("now LIVE", x -> x.live(FIXED, true), 1);
        refused("BROKEN", x -> x.live(BROKEN_BY_DIVISION, false), BROKEN);
        refused("BROKEN", x -> x.live(OF_BROKEN, false), BROKEN);
        refused("BROKEN, but it was LIVE", x -> x.live(BROKEN_BY_DIVISION, true), 0);
        refused("BROKEN, but it was LIVE", x -> x.live(OF_BROKEN, true), 0);
        Consumer<Counted> brokenBeneath = x -> {
            world(x);
            x.set(BASE, NODE, 1, 1);
            x.live(OF_BROKEN, false);
            x.set(BASE, NODE, 1, 0);
        };
        Unchanged beneath = new Unchanged(check, brokenBeneath);
        beneath.refused("FIXED before what it is of was BROKEN: it was so", x -> x.live(OF_BROKEN, false), 0);
        beneath.done("LIVE again, and BROKEN", x -> x.live(OF_BROKEN, true), 1);
    }

    private static void promise9Told() {
        check.at("9 told: BAD; BROKEN (0, 1, 3)");
        int[][] rows = {
            {BASE, 3, 3, 0, 0, 1, 0}, {HIDING, 2, 1, 1, 2, 1, 0}, {FIXED, 3, 3, 2, 0, 0, 0},
            {BROKEN_BY_DIVISION, BROKEN, BROKEN, 1, BROKEN, 1, 1}, {OF_BROKEN, BROKEN, BROKEN, 2, BROKEN, 1, 1},
            {JOINED, 3, 4, 3, 0, 1, 0}, {LESS, 3, 2, 4, 0, 1, 0}, {PRODUCT, 6, 18, 5, 0, 1, 0},
            {LINES, 3, 2, 6, 0, 1, 0}, {GATHERED, 2, 3, 7, 0, 1, 0}};
        for (int[] row : rows) {
            for (int each = 0; each <= 5; each++) {
                int what = each;
                refused("told(" + row[0] + ", " + what + ")", x -> x.told(row[0], what), row[1 + what]);
            }
            refused("what 6", x -> x.told(row[0], 6), BAD);
            refused("what -1", x -> x.told(row[0], -1), BAD);
        }
        for (int each = 0; each <= 5; each++) {
            int what = each;
            refusedOutside("g", 0, NO_GRAPH - 1, (x, g) -> x.told(g, what), BAD);
        }
        refusedOutside("what", 0, 5, (x, what) -> x.told(BASE, what), BAD);
        refusedOutside("what, ahead of BROKEN", 0, 5, (x, what) -> x.told(OF_BROKEN, what), BAD);
    }

    private static void promise10End() {
        check.at("10 end: BAD: also no such which; BROKEN (ahead of a number that is none)");
        refused("FROM of the first", x -> x.end(BASE, 0, 0), 0);
        refused("TO of the last", x -> x.end(BASE, 2, 1), 2);
        refused("of a fixed one", x -> x.end(FIXED, 0, 0), 1);
        refusedOutside("g", 0, NO_GRAPH - 1, (x, g) -> x.end(g, 0, 0), BAD);
        refusedOutside("which", 0, 1, (x, which) -> x.end(BASE, 0, which), BAD);
        refusedOutside("e", 0, 2, (x, e) -> x.end(BASE, e, 0), BAD);
        refusedOutside("e of a view", 0, 17, (x, e) -> x.end(PRODUCT, e, 1), BAD);
        refused("the last of a view", x -> x.end(PRODUCT, 17, 1), 5);
        refused("BROKEN", x -> x.end(BROKEN_BY_DIVISION, 0, 0), BROKEN);
        refusedOutside("BROKEN ahead of e", 0, 2, (x, e) -> x.end(BROKEN_BY_DIVISION, e, 0), BROKEN);
        refusedOutside("which ahead of BROKEN", 0, 1, (x, which) -> x.end(OF_BROKEN, 0, which), BAD);
    }

    private static void promise11Value() {
        check.at("11 value: as end()");
        refused("the first node", x -> x.value(BASE, NODE, 0), 1);
        refused("the last node", x -> x.value(BASE, NODE, 2), 2);
        refused("the first arc", x -> x.value(BASE, ARC, 0), 4);
        refused("the last arc", x -> x.value(BASE, ARC, 2), 0);
        refused("of a fixed one", x -> x.value(FIXED, ARC, 0), 5);
        refusedOutside("g", 0, NO_GRAPH - 1, (x, g) -> x.value(g, NODE, 0), BAD);
        refusedOutside("what", 0, 1, (x, what) -> x.value(BASE, what, 0), BAD);
        refusedOutside("node", 0, 2, (x, i) -> x.value(BASE, NODE, i), BAD);
        refusedOutside("arc", 0, 2, (x, i) -> x.value(BASE, ARC, i), BAD);
        refusedOutside("node of a view", 0, 1, (x, i) -> x.value(HIDING, NODE, i), BAD);
        refusedOutside("arc of a view", 0, 0, (x, i) -> x.value(HIDING, ARC, i), BAD);
        refused("BROKEN", x -> x.value(BROKEN_BY_DIVISION, NODE, 0), BROKEN);
        refusedOutside("BROKEN ahead of i", 0, 2, (x, i) -> x.value(BROKEN_BY_DIVISION, NODE, i), BROKEN);
        refusedOutside("BROKEN ahead of i", 0, 2, (x, i) -> x.value(OF_BROKEN, ARC, i), BROKEN);
        refusedOutside("what ahead of BROKEN", 0, 1, (x, what) -> x.value(OF_BROKEN, what, 0), BAD);
    }

    private static void promise12Up() {
        check.at("12 up: BAD: a BASE one, what, which; BROKEN; BAD: i; NONE");
        refused("the first node", x -> x.up(HIDING, NODE, 0, 0), 0);
        refused("the last node", x -> x.up(HIDING, NODE, 1, 0), 2);
        refused("the last arc", x -> x.up(PRODUCT, ARC, 17, 0), 2);
        refused("the last arc", x -> x.up(PRODUCT, ARC, 17, 1), 1);
        refusedOutside("g", 0, NO_GRAPH - 1, (x, g) -> x.up(g, NODE, 0, 0), BAD);
        refused("a BASE one", x -> x.up(BASE, NODE, 0, 0), BAD);
        refused("a BASE one", x -> x.up(BASE_B, ARC, 0, 1), BAD);
        refusedOutside("what", 0, 1, (x, what) -> x.up(HIDING, what, 0, 0), BAD);
        refusedOutside("which", 0, 1, (x, which) -> x.up(HIDING, NODE, 0, which), BAD);
        refusedOutside("node", 0, 1, (x, i) -> x.up(HIDING, NODE, i, 0), BAD);
        refusedOutside("arc", 0, 0, (x, i) -> x.up(HIDING, ARC, i, 0), BAD);
        refusedOutside("i ahead of NONE", 0, 1, (x, i) -> x.up(HIDING, NODE, i, 1), BAD);
        refused("NONE", x -> x.up(HIDING, NODE, 1, 1), NONE);
        refused("NONE of a JOINED one", x -> x.up(JOINED, NODE, 2, 1), NONE);
        refused("BROKEN", x -> x.up(BROKEN_BY_DIVISION, NODE, 0, 0), BROKEN);
        refused("BROKEN ahead of NONE", x -> x.up(BROKEN_BY_DIVISION, NODE, 0, 1), BROKEN);
        refusedOutside("BROKEN ahead of i", 0, 2, (x, i) -> x.up(OF_BROKEN, NODE, i, 0), BROKEN);
        refusedOutside("what ahead of BROKEN", 0, 1, (x, what) -> x.up(OF_BROKEN, what, 0, 0), BAD);
        refusedOutside("which ahead of BROKEN", 0, 1, (x, which) -> x.up(OF_BROKEN, NODE, 0, which), BAD);
    }

    private static void promise13Down() {
        check.at("13 down: the first whose UP is i. BAD, BROKEN as up(); NONE");
        refused("the only one", x -> x.down(HIDING, NODE, 2, 0), 1);
        refused("the first of several", x -> x.down(PRODUCT, NODE, 2, 0), 4);
        refused("the first of several, of b", x -> x.down(PRODUCT, NODE, 1, 1), 1);
        refused("the first of several arcs", x -> x.down(PRODUCT, ARC, 0, 0), 0);
        refused("the first of several arcs, of b", x -> x.down(PRODUCT, ARC, 1, 1), 7);
        refused("one that is left out", x -> x.down(HIDING, NODE, 1, 0), NONE);
        refused("which 1 where there is none", x -> x.down(HIDING, NODE, 0, 1), NONE);
        refusedOutside("g", 0, NO_GRAPH - 1, (x, g) -> x.down(g, NODE, 0, 0), BAD);
        refused("a BASE one", x -> x.down(BASE, NODE, 0, 0), BAD);
        refused("a BASE one, ahead of NONE", x -> x.down(BASE_B, ARC, 9, 1), BAD);
        refusedOutside("what", 0, 1, (x, what) -> x.down(HIDING, what, 0, 0), BAD);
        refusedOutside("which", 0, 1, (x, which) -> x.down(HIDING, NODE, 0, which), BAD);
        refusedOutside("an i that is no number of a", 0, 2, (x, i) -> x.down(HIDING, NODE, i, 0), NONE);
        refusedOutside("an i that is no number of b", 0, 1, (x, i) -> x.down(JOINED, NODE, i, 1), NONE);
        refused("NONE is no UP", x -> x.down(HIDING, NODE, NONE, 1), NONE);
        refused("NONE is no UP where some have none", x -> x.down(JOINED, ARC, NONE, 1), NONE);
        refused("-1 is no UP where some have none", x -> x.down(JOINED, ARC, -1, 1), NONE);
        refused("BROKEN", x -> x.down(BROKEN_BY_DIVISION, NODE, 0, 0), BROKEN);
        refusedOutside("BROKEN ahead of NONE", 0, 2, (x, i) -> x.down(OF_BROKEN, NODE, i, 0), BROKEN);
        refusedOutside("what ahead of BROKEN", 0, 1, (x, what) -> x.down(OF_BROKEN, what, 0, 0), BAD);
        refusedOutside("which ahead of BROKEN", 0, 1, (x, which) -> x.down(OF_BROKEN, NODE, 0, which), BAD);
    }

    private static void promise14Hidden() {
        check.at("14 hidden: BAD: also another KIND, what; BROKEN; NONE");
        int[][] rows = {{0, 1, Edges.DIVISION}, {1, 2, Edges.DIVISION}};
        for (int each = 0; each < 2; each++) {
            int k = each;
            for (int column = 0; column <= 2; column++) {
                int what = column;
                refused("hidden(" + k + ", " + what + ")", x -> x.hidden(HIDING, k, what), rows[k][what]);
            }
        }
        for (int column = 0; column <= 2; column++) {
            int what = column;
            refusedOutside("k", 0, 1, (x, k) -> x.hidden(HIDING, k, what), NONE);
        }
        refusedOutside("g", 0, NO_GRAPH - 1, (x, g) -> x.hidden(g, 0, 0), BAD);
        int[] others = {BASE, BASE_B, FIXED, JOINED, LESS, PRODUCT, LINES, GATHERED};
        for (int other : others) {
            refused("another KIND " + other, x -> x.hidden(other, 0, 0), BAD);
        }
        refused("another KIND, ahead of BROKEN", x -> x.hidden(OF_BROKEN, 0, 0), BAD);
        refusedOutside("what", 0, 2, (x, what) -> x.hidden(HIDING, 0, what), BAD);
        refusedOutside("what ahead of NONE", 0, 2, (x, what) -> x.hidden(HIDING, 2, what), BAD);
        refusedOutside("what ahead of BROKEN", 0, 2, (x, what) -> x.hidden(BROKEN_BY_DIVISION, 0, what), BAD);
        refused("BROKEN", x -> x.hidden(BROKEN_BY_DIVISION, 0, 0), BROKEN);
        refusedOutside("BROKEN ahead of NONE", 0, 2, (x, k) -> x.hidden(BROKEN_BY_DIVISION, k, 0), BROKEN);
    }

    private static void promise15Same() {
        check.at("15 same: 1, 0. BAD; BROKEN: one is");
        refused("with itself", x -> x.same(BASE, BASE), 1);
        refused("with another", x -> x.same(BASE, BASE_B), 0);
        refused("the last", x -> x.same(BASE, NO_GRAPH - 2), 0);
        refusedOutside("a", 0, NO_GRAPH - 1, (x, a) -> x.same(a, BASE), BAD);
        refusedOutside("b", 0, NO_GRAPH - 1, (x, b) -> x.same(BASE, b), BAD);
        refusedOutside("a ahead of BROKEN", 0, NO_GRAPH - 1, (x, a) -> x.same(a, OF_BROKEN), BAD);
        refusedOutside("b ahead of BROKEN", 0, NO_GRAPH - 1, (x, b) -> x.same(OF_BROKEN, b), BAD);
        refused("a is BROKEN", x -> x.same(BROKEN_BY_DIVISION, BASE), BROKEN);
        refused("b is BROKEN", x -> x.same(BASE, BROKEN_BY_DIVISION), BROKEN);
        refused("both are", x -> x.same(BROKEN_BY_DIVISION, OF_BROKEN), BROKEN);
        refused("one with itself", x -> x.same(OF_BROKEN, OF_BROKEN), BROKEN);
        check.at("15 same: as many NODES and ARCS, with the same ends and VALUES, number by number");
        sameOfTwins();
    }

    /** Two base graphs of two nodes and two arcs, alike; then one of them differs in one number at a time. */
    private static void sameOfTwins() {
        Counted x = new Counted();
        for (int g = 0; g < 2; g++) {
            x.graph(2);
            x.arc(g, 0, 1, 5);
            x.arc(g, 1, 0, 6);
        }
        due("alike", x.same(0, 1), 1);
        for (int what = 0; what <= 1; what++) {
            for (int i = 0; i < 2; i++) {
                long was = x.value(1, what, i);
                x.set(1, what, i, was + (1L << 32));
                due("another VALUE", x.same(0, 1), 0);
                due("another VALUE", x.same(1, 0), 0);
                x.set(1, what, i, was);
                due("alike again", x.same(0, 1), 1);
            }
        }
        x.arc(1, 0, 0, 1);
        due("an ARC more", x.same(0, 1), 0);
        due("an ARC less", x.same(1, 0), 0);
        x.arc(0, 0, 1, 1);
        due("the last TO differs", x.same(0, 1), 0);
        x.graph(2);
        x.arc(2, 1, 0, 6);
        x.arc(2, 0, 1, 5);
        x.arc(2, 0, 1, 1);
        due("the same ARCS in another order", x.same(0, 2), 0);
        x.graph(2);
        x.graph(2);
        x.graph(3);
        due("a NODE more", x.same(3, 5), 0);
        due("a NODE less", x.same(5, 3), 0);
        x.arc(3, 0, 1, 1);
        x.arc(4, 1, 1, 1);
        due("FROM differs", x.same(3, 4), 0);
        due("FROM differs", x.same(4, 3), 0);
        due("a base one and a view alike", x.same(3, x.view(Edges.FILTER, 3, -1, -1, 0)), 1);
    }

    private static void promise16Reach() {
        check.at("16 reach: (it, too). BAD: the GRAPH; BROKEN; BAD: the NODE");
        refused("from the first", x -> x.reach(BASE, 0), 3);
        refused("only itself", x -> x.reach(BASE, 1), 1);
        refused("only itself, by an arc", x -> x.reach(BASE, 2), 1);
        refusedOutside("g", 0, NO_GRAPH - 1, (x, g) -> x.reach(g, 0), BAD);
        refusedOutside("s", 0, 2, (x, s) -> x.reach(BASE, s), BAD);
        refusedOutside("s of a view", 0, 5, (x, s) -> x.reach(PRODUCT, s), BAD);
        refused("BROKEN", x -> x.reach(BROKEN_BY_DIVISION, 0), BROKEN);
        refusedOutside("BROKEN ahead of s", 0, 2, (x, s) -> x.reach(BROKEN_BY_DIVISION, s), BROKEN);
        check.at("16 reach: of 40 NODES in a row, and of the last one");
        Counted x = new Counted();
        x.graph(8);
        x.graph(5);
        for (int i = 6; i >= 0; i--) {
            x.arc(0, i, i + 1, 1);
        }
        for (int i = 3; i >= 0; i--) {
            x.arc(1, i, i + 1, 1);
        }
        int row = x.view(Edges.PRODUCT, 0, 1, 1, 0);
        due("all 40", x.reach(row, 0), 40);
        due("the last", x.reach(row, 39), 1);
        due("no 41st", x.reach(row, 40), BAD);
        int back = x.view(Edges.TURNED, row, 0, 0, 0);
        due("all 40, the other way", x.reach(back, 39), 40);
        due("the first", x.reach(back, 0), 1);
        x.graph(12);
        for (int i = 10; i >= 0; i--) {
            x.arc(4, i, i + 1, 1);
        }
        for (int i = 0; i < 12; i++) {
            due("a row of twelve, its arcs from the end on", x.reach(4, i), 12 - i);
        }
        x.arc(4, 11, 0, 1);
        due("a ring", x.reach(4, 7), 12);
    }

    private static void promise17Ask() {
        check.at("17 ask: 1, 0; -10 less the FAILURE. BAD: the GRAPH, what, the TEST; BROKEN; BAD: i");
        refused("1", x -> x.ask(BASE, NODE, 0, 0), 1);
        refused("0", x -> x.ask(BASE, NODE, 1, 1), 0);
        refused("by DIVISION", x -> x.ask(BASE, NODE, 1, 0), -11);
        refused("the last arc", x -> x.ask(BASE, ARC, 2, NO_TEST - 1), -11);
        refused("of a view", x -> x.ask(HIDING, NODE, 1, 0), 1);
        refusedOutside("g", 0, NO_GRAPH - 1, (x, g) -> x.ask(g, NODE, 0, 0), BAD);
        refusedOutside("what", 0, 1, (x, what) -> x.ask(BASE, what, 0, 0), BAD);
        refusedOutside("t", 0, NO_TEST - 1, (x, t) -> x.ask(BASE, NODE, 0, t), BAD);
        refusedOutside("node", 0, 2, (x, i) -> x.ask(BASE, NODE, i, 0), BAD);
        refusedOutside("arc", 0, 2, (x, i) -> x.ask(BASE, ARC, i, 0), BAD);
        refusedOutside("node of a view", 0, 1, (x, i) -> x.ask(HIDING, NODE, i, 0), BAD);
        refused("BROKEN", x -> x.ask(BROKEN_BY_DIVISION, NODE, 0, 0), BROKEN);
        refusedOutside("BROKEN ahead of i", 0, 2, (x, i) -> x.ask(OF_BROKEN, NODE, i, 0), BROKEN);
        refusedOutside("what ahead of BROKEN", 0, 1, (x, what) -> x.ask(OF_BROKEN, what, 0, 0), BAD);
        refusedOutside("t ahead of BROKEN", 0, NO_TEST - 1, (x, t) -> x.ask(OF_BROKEN, NODE, 0, t), BAD);
        check.at("17 ask: of a GRAPH as it is now");
        Counted x = ordinaryObject();
        x.set(BASE, NODE, 1, 4);
        due("no longer failing", x.ask(BASE, NODE, 1, 0), 1);
        due("nor broken", x.ask(BROKEN_BY_DIVISION, NODE, 1, 0), 1);
        due("a fixed one is as it was", x.ask(FIXED, NODE, 1, 0), -11);
    }

    private static void promise18Count() {
        check.at("18 count: 0 GRAPHS, 1 TESTS, 2 VIEWS that are FIXED. BAD");
        refused("graphs", x -> x.count(0), NO_GRAPH);
        refused("tests", x -> x.count(1), NO_TEST);
        refused("fixed", x -> x.count(2), 1);
        refusedOutside("what", 0, 2, (x, what) -> x.count(what), BAD);
        Counted x = new Counted();
        x.graph(1);
        for (int g = 1; g < 24; g++) {
            x.view(Edges.TURNED, g - 1, 0, 0, 0);
            due("fixed so far", x.count(2), g - 1);
            x.live(g, false);
        }
        due("all but the base one", x.count(2), 23);
        due("all", x.count(0), 24);
        x.live(23, true);
        due("one less", x.count(2), 22);
        x.live(23, true);
        due("it was so", x.count(2), 22);
    }

    private static void promise19Clear() {
        check.at("19 clear: All GRAPHS and TESTS go, all LABELS are -1: how many GRAPHS there were");
        done("all go", x -> x.clear(), NO_GRAPH);
        Unchanged cleared = new Unchanged(check, x -> {
            world(x);
            x.clear();
        });
        cleared.refused("none to go", x -> x.clear(), 0);
        Unchanged fresh = new Unchanged(check, x -> {
        });
        fresh.refused("as a new object", x -> {
            world(x);
            return x.clear();
        }, NO_GRAPH);
        Unchanged again = new Unchanged(check, EdgesOfCallsTest::world);
        again.refused("what comes then is as before", x -> {
            x.clear();
            fullOfGraphs(x);
            x.clear();
            world(x);
            return x.count(0);
        }, NO_GRAPH);
        Counted x = new Counted();
        fullOfGraphs(x);
        due("one is BROKEN", x.told(BROKEN_BY_DIVISION, 0), BROKEN);
        due("the last is, too", x.told(23, 0), BROKEN);
        due("24", x.clear(), 24);
        due("0", x.clear(), 0);
        for (int g = 0; g < 24; g++) {
            due("24 more", x.graph(1), g);
            due("of one node, whatever was there", x.told(g, 0), 1);
            due("a BASE one", x.told(g, 2), 0);
            due("LIVE", x.told(g, 4), 1);
        }
        due("and no more", x.graph(1), FULL);
        fullOfTests(x);
        x.clear();
        for (int t = 0; t < 20; t++) {
            due("20 more", x.test(0, 0, 0, 0), t);
        }
        due("and no more", x.test(0, 0, 0, 0), FULL);
    }
}
