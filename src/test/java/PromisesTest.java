/** The promises 1 to 19, one method each: ordinary inputs, edges, wrong inputs, and which answer below 0 is first. */
public final class PromisesTest {
    private static final int BAD = -1000001, FULL = -1000002, BROKEN = -1000003, NONE = -1000004;
    private static final int DIVISION = 1, INDEX = 2, LONG = 3, LARGE = 4, SPENT = 5;
    private static final int[] NO_NUMBERS = {-1, Integer.MIN_VALUE, Integer.MAX_VALUE, BAD, NONE};

    private static final Check check = new Check();

    public static void main(String[] args) {
        promise1NewObject();
        promise2Graph();
        promise3Arc();
        promise4Set();
        promise5Label();
        promise6Test();
        promise7View();
        promise8Live();
        promise9Told();
        promise10End();
        promise11Value();
        promise12Up();
        promise13Down();
        promise14Hidden();
        promise15Same();
        promise16Reach();
        promise17Ask();
        promise18Count();
        promise19Clear();
        check.end();
    }

    private static void due(String call, long got, long want) {
        check.due(call, got, want);
    }

    /** Graph 0 with nodes of values 1, 0, 1; FILTER 1 of it in mode 1 by c % v: BROKEN by DIVISION. */
    private static ViewsJoins withBrokenView() {
        ViewsJoins x = new ViewsJoins();
        x.graph(3);
        x.arc(0, 0, 1, 4);
        x.set(0, 0, 0, 1);
        x.set(0, 0, 2, 1);
        x.test(1, 6, 0, 0);
        x.view(1, 0, 0, -1, 1);
        return x;
    }

    private static ViewsJoins withNodes(long... values) {
        ViewsJoins x = new ViewsJoins();
        x.graph(values.length);
        for (int i = 0; i < values.length; i++) {
            x.set(0, 0, i, values[i]);
        }
        return x;
    }

    private static void arcsAre(ViewsJoins x, int g, long[][] fromToValue) {
        due("arcs of " + g, x.told(g, 1), fromToValue.length);
        for (int e = 0; e < fromToValue.length; e++) {
            due("FROM of arc " + e + " of " + g, x.end(g, e, 0), fromToValue[e][0]);
            due("TO of arc " + e + " of " + g, x.end(g, e, 1), fromToValue[e][1]);
            due("value of arc " + e + " of " + g, x.value(g, 1, e), fromToValue[e][2]);
        }
    }

    private static void nodesAre(ViewsJoins x, int g, long... values) {
        due("nodes of " + g, x.told(g, 0), values.length);
        for (int i = 0; i < values.length; i++) {
            due("value of node " + i + " of " + g, x.value(g, 0, i), values[i]);
        }
    }

    private static void upsAre(ViewsJoins x, int g, int what, int which, int... ups) {
        for (int i = 0; i < ups.length; i++) {
            due("up(" + g + ", " + what + ", " + i + ", " + which + ")", x.up(g, what, i, which), ups[i]);
        }
        due("up behind the last one", x.up(g, what, ups.length, which), BAD);
    }

    private static void promise1NewObject() {
        check.at("promise 1");
        due("BAD", ViewsJoins.BAD, BAD);
        due("FULL", ViewsJoins.FULL, FULL);
        due("BROKEN", ViewsJoins.BROKEN, BROKEN);
        due("NONE", ViewsJoins.NONE, NONE);
        ViewsJoins x = new ViewsJoins();
        due("graphs", x.count(0), 0);
        due("tests", x.count(1), 0);
        due("fixed", x.count(2), 0);
        due("no graph 0", x.told(0, 2), BAD);
        for (int table = 0; table < 4; table++) {
            for (int i = 0; i < 40; i++) {
                due("label", x.label(table, i, 9), -1);
            }
        }
        ViewsJoins other = new ViewsJoins();
        due("another object's graphs", other.count(0), 0);
        due("another object's label", other.label(3, 39, 0), -1);
        due("nothing to clear", other.clear(), 0);
    }

    private static void promise2Graph() {
        check.at("promise 2");
        ViewsJoins x = new ViewsJoins();
        due("graph(0)", x.graph(0), BAD);
        due("graph(13)", x.graph(13), BAD);
        for (int wrong : NO_NUMBERS) {
            due("graph(wrong)", x.graph(wrong), BAD);
        }
        due("none came", x.count(0), 0);
        due("graph(1)", x.graph(1), 0);
        due("graph(12)", x.graph(12), 1);
        nodesAre(x, 0, 0);
        nodesAre(x, 1, 0, 0, 0, 0, 0, 0, 0, 0, 0, 0, 0, 0);
        due("arcs", x.told(1, 1), 0);
        for (int g = 2; g < 24; g++) {
            due("graph", x.graph(2), g);
        }
        due("BAD is ahead of FULL", x.graph(13), BAD);
        due("graph(2)", x.graph(2), FULL);
        due("graphs", x.count(0), 24);
        ViewsJoins y = new ViewsJoins();
        y.graph(2);
        for (int g = 1; g < 24; g++) {
            y.view(2, g - 1, 0, 0, 0);
        }
        due("views fill too", y.graph(2), FULL);
    }

    private static void promise3Arc() {
        check.at("promise 3");
        ViewsJoins x = new ViewsJoins();
        due("no graph", x.arc(0, 0, 0, 1), BAD);
        x.graph(3);
        x.view(2, 0, 0, 0, 0);
        due("a view", x.arc(1, 0, 0, 1), BAD);
        due("first", x.arc(0, 0, 1, Long.MIN_VALUE), 0);
        due("same ends", x.arc(0, 2, 2, 7), 1);
        due("alike", x.arc(0, 0, 1, Long.MIN_VALUE), 2);
        for (int wrong : NO_NUMBERS) {
            due("wrong g", x.arc(wrong, 0, 1, 1), BAD);
            due("wrong from", x.arc(0, wrong, 1, 1), BAD);
            due("wrong to", x.arc(0, 1, wrong, 1), BAD);
        }
        due("from 3", x.arc(0, 3, 0, 1), BAD);
        due("to 3", x.arc(0, 0, 3, 1), BAD);
        arcsAre(x, 0, new long[][] {{0, 1, Long.MIN_VALUE}, {2, 2, 7}, {0, 1, Long.MIN_VALUE}});
        for (int e = 3; e < 30; e++) {
            due("arc", x.arc(0, e % 3, 0, e), e);
        }
        due("BAD is ahead of FULL", x.arc(0, 0, 3, 1), BAD);
        due("the 31st", x.arc(0, 0, 1, 1), FULL);
        due("arcs", x.told(0, 1), 30);
        due("arcs of the view", x.told(1, 1), 30);
    }

    private static void promise4Set() {
        check.at("promise 4");
        ViewsJoins x = withNodes(5, 6);
        due("no arc yet", x.set(0, 1, 0, 1), BAD);
        x.arc(0, 0, 1, 3);
        x.view(2, 0, 0, 0, 0);
        due("a view", x.set(1, 0, 0, 1), BAD);
        due("node", x.set(0, 0, 1, Long.MAX_VALUE), 1);
        due("arc", x.set(0, 1, 0, Long.MIN_VALUE), 1);
        nodesAre(x, 0, 5, Long.MAX_VALUE);
        nodesAre(x, 1, 5, Long.MAX_VALUE);
        due("value of the arc", x.value(0, 1, 0), Long.MIN_VALUE);
        due("value of the view's arc", x.value(1, 1, 0), Long.MIN_VALUE);
        for (int wrong : NO_NUMBERS) {
            due("wrong g", x.set(wrong, 0, 0, 1), BAD);
            due("wrong what", x.set(0, wrong, 0, 1), BAD);
            due("wrong node", x.set(0, 0, wrong, 1), BAD);
            due("wrong arc", x.set(0, 1, wrong, 1), BAD);
        }
        due("what 2", x.set(0, 2, 0, 1), BAD);
        due("node 2", x.set(0, 0, 2, 1), BAD);
        due("arc 1", x.set(0, 1, 1, 1), BAD);
        due("graph 2", x.set(2, 0, 0, 1), BAD);
        nodesAre(x, 0, 5, Long.MAX_VALUE);
    }

    private static void promise5Label() {
        check.at("promise 5");
        ViewsJoins x = new ViewsJoins();
        due("first", x.label(0, 0, 9), -1);
        due("what it was", x.label(0, 0, 0), 9);
        due("taken", x.label(0, 0, -1), 0);
        due("it was taken", x.label(0, 0, -1), -1);
        due("last", x.label(3, 39, 5), -1);
        due("last again", x.label(3, 39, 6), 5);
        due("another table", x.label(2, 39, 6), -1);
        due("another number", x.label(3, 38, 6), -1);
        due("table 4", x.label(4, 0, 0), -2);
        due("number 40", x.label(0, 40, 0), -2);
        due("label 10", x.label(0, 0, 10), -2);
        due("label -2", x.label(0, 0, -2), -2);
        for (int wrong : NO_NUMBERS) {
            due("wrong table", x.label(wrong, 0, 0), -2);
            due("wrong number", x.label(0, wrong, 0), -2);
        }
        due("label least", x.label(0, 0, Integer.MIN_VALUE), -2);
        due("label greatest", x.label(0, 0, Integer.MAX_VALUE), -2);
        due("nothing changed", x.label(0, 0, 1), -1);
    }

    private static void promise6Test() {
        check.at("promise 6");
        ViewsJoins x = new ViewsJoins();
        due("sort -1", x.test(-1, 0, 0, 0), BAD);
        due("sort 9", x.test(9, 0, 0, 0), BAD);
        for (int sort = 4; sort <= 8; sort++) {
            due("no parts yet", x.test(sort, 0, 0, 0), BAD);
        }
        due("parts not looked at", x.test(0, 1, -5, 99), 0);
        due("parts not looked at", x.test(1, 1, -5, 99), 1);
        due("parts not looked at", x.test(2, 1, -5, 99), 2);
        due("parts not looked at", x.test(3, 1, -5, 99), 3);
        due("not: u not looked at", x.test(4, 1, 3, 99), 4);
        due("and", x.test(5, 1, 4, 0), 5);
        due("or", x.test(6, 1, 0, 5), 6);
        due("mended: u not looked at", x.test(7, 1, 6, -1), 7);
        due("next: u not looked at", x.test(8, 1, 7, 99), 8);
        for (int sort = 4; sort <= 8; sort++) {
            due("t itself", x.test(sort, 0, 9, 0), BAD);
            for (int wrong : NO_NUMBERS) {
                due("wrong t", x.test(sort, 0, wrong, 0), BAD);
            }
        }
        for (int wrong : NO_NUMBERS) {
            due("wrong u", x.test(5, 0, 0, wrong), BAD);
            due("wrong u", x.test(6, 0, 0, wrong), BAD);
            due("wrong sort", x.test(wrong, 0, 0, 0), BAD);
        }
        due("u itself", x.test(5, 0, 0, 9), BAD);
        due("u itself", x.test(6, 0, 0, 9), BAD);
        due("tests", x.count(1), 9);
        for (int t = 9; t < 20; t++) {
            due("test", x.test(0, t, 0, 0), t);
        }
        due("BAD is ahead of FULL", x.test(9, 0, 0, 0), BAD);
        due("BAD part is ahead of FULL", x.test(4, 0, 20, 0), BAD);
        due("the 21st", x.test(0, 0, 0, 0), FULL);
        due("tests", x.count(1), 20);
    }

    private static void promise7View() {
        check.at("promise 7");
        viewArguments();
        viewFilter();
        viewFilterFailures();
        viewFilterBudgets();
        viewTurnedJoinedLess();
        viewProduct();
        viewLines();
        viewGathered();
        viewLarge();
        viewOfBroken();
    }

    private static void viewArguments() {
        ViewsJoins x = new ViewsJoins();
        for (int kind = 1; kind <= 7; kind++) {
            due("of no graph", x.view(kind, 0, 0, 0, 0), BAD);
        }
        x.graph(2);
        x.test(0, 0, 0, 0);
        due("kind 0", x.view(0, 0, 0, 0, 0), BAD);
        due("kind 8", x.view(8, 0, 0, 0, 0), BAD);
        due("of itself", x.view(2, 1, 0, 0, 0), BAD);
        due("test 1 of nodes", x.view(1, 0, 1, 0, 0), BAD);
        due("test -2 of nodes", x.view(1, 0, -2, 0, 0), BAD);
        due("test 1 of arcs", x.view(1, 0, 0, 1, 0), BAD);
        due("test -2 of arcs", x.view(1, 0, 0, -2, 0), BAD);
        due("mode 2", x.view(1, 0, 0, 0, 2), BAD);
        due("mode -1", x.view(1, 0, 0, 0, -1), BAD);
        due("joined with itself", x.view(3, 0, 1, 0, 0), BAD);
        due("less itself", x.view(4, 0, 1, 0, 0), BAD);
        due("times itself", x.view(5, 0, 1, 0, 0), BAD);
        due("sort 3", x.view(5, 0, 0, 3, 0), BAD);
        due("sort -1", x.view(5, 0, 0, -1, 0), BAD);
        due("table 4", x.view(7, 0, 4, 0, 0), BAD);
        due("table -1", x.view(7, 0, -1, 0, 0), BAD);
        due("rule 3", x.view(7, 0, 0, 3, 0), BAD);
        due("rule -1", x.view(7, 0, 0, -1, 0), BAD);
        for (int wrong : NO_NUMBERS) {
            due("wrong kind", x.view(wrong, 0, 0, 0, 0), BAD);
            due("wrong a", x.view(2, wrong, 0, 0, 0), BAD);
            due("wrong b", x.view(3, 0, wrong, 0, 0), BAD);
        }
        due("none came", x.count(0), 1);
        due("filter", x.view(1, 0, 0, -1, 1), 1);
        due("turned: no more looked at", x.view(2, 1, -9, 99, 99), 2);
        due("joined: no more looked at", x.view(3, 1, 1, 99, -99), 3);
        due("less: no more looked at", x.view(4, 2, 1, 99, -99), 4);
        due("product: d not looked at", x.view(5, 0, 0, 2, -99), 5);
        due("lines: no more looked at", x.view(6, 0, -9, 99, 99), 6);
        due("gathered: d not looked at", x.view(7, 0, 3, 2, 99), 7);
        for (int g = 8; g < 24; g++) {
            due("view", x.view(2, g - 1, 0, 0, 0), g);
        }
        due("BAD is ahead of FULL", x.view(2, 24, 0, 0, 0), BAD);
        due("the 25th", x.view(2, 23, 0, 0, 0), FULL);
        due("graphs", x.count(0), 24);
        due("the whole chain is told", x.told(23, 0), 0);
        ViewsJoins y = new ViewsJoins();
        y.graph(2);
        for (int g = 1; g < 24; g++) {
            y.view(g % 2 == 0 ? 2 : 3, g - 1, 0, 0, 0);
        }
        y.arc(0, 0, 1, 6);
        due("the last one of a chain, none asked before", y.up(23, 1, 0, 0), 0);
        due("its value", y.value(23, 1, 0), 6);
        y.set(0, 1, 0, 7);
        due("after a change too", y.value(23, 1, 0), 7);
        due("by way of all of them", y.up(23, 1, 0, 0), 0);
        ViewsJoins z = new ViewsJoins();
        z.graph(2);
        z.view(2, 0, 0, 0, 0);
        z.view(3, 0, 1, 0, 0);
        z.set(0, 0, 0, 1);
        z.arc(0, 0, 1, 4);
        due("the second one of two, not asked before", z.end(2, 1, 0), 1);
    }

    private static void viewFilter() {
        ViewsJoins x = withNodes(3, -1, 4, 1, 8);
        x.arc(0, 0, 2, 10);
        x.arc(0, 0, 1, 20);
        x.arc(0, 4, 2, 30);
        x.arc(0, 2, 2, -40);
        x.arc(0, 4, 0, 50);
        x.test(0, 2, 0, 0);
        x.test(0, 10, 0, 0);
        due("nodes above 2", x.view(1, 0, 0, -1, 0), 1);
        nodesAre(x, 1, 3, 4, 8);
        arcsAre(x, 1, new long[][] {{0, 1, 10}, {2, 1, 30}, {1, 1, -40}, {2, 0, 50}});
        due("a no hides none", x.told(1, 3), 0);
        upsAre(x, 1, 0, 0, 0, 2, 4);
        upsAre(x, 1, 1, 0, 0, 2, 3, 4);
        upsAre(x, 1, 0, 1, NONE, NONE, NONE);
        upsAre(x, 1, 1, 1, NONE, NONE, NONE, NONE);
        due("and arcs above 10", x.view(1, 0, 0, 1, 1), 2);
        arcsAre(x, 2, new long[][] {{2, 1, 30}, {2, 0, 50}});
        due("all pass", x.view(1, 0, -1, -1, 0), 3);
        due("as it is", x.same(0, 3), 1);
        due("only arcs", x.view(1, 0, -1, 1, 0), 4);
        due("five nodes", x.told(4, 0), 5);
        due("a no hides none of the arcs", x.told(4, 3), 0);
        arcsAre(x, 4, new long[][] {{0, 1, 20}, {4, 2, 30}, {4, 0, 50}});
        due("of a filter", x.view(1, 4, 0, -1, 0), 5);
        arcsAre(x, 5, new long[][] {{2, 1, 30}, {2, 0, 50}});
        due("none passes", x.test(0, Long.MAX_VALUE, 0, 0), 2);
        due("empty", x.view(1, 0, 2, 2, 1), 6);
        nodesAre(x, 6);
        arcsAre(x, 6, new long[][] {});
        x.test(3, 2, 0, 0);
        due("asked of a, not of the view: two arcs or more", x.view(1, 0, 3, -1, 0), 7);
        nodesAre(x, 7, 3, 8);
    }

    private static void viewFilterFailures() {
        ViewsJoins x = withNodes(1, 0, 2, 4);
        x.arc(0, 0, 2, 3);
        x.arc(0, 2, 1, 9);
        x.arc(0, 3, 0, 9);
        x.arc(0, 0, 0, 0);
        x.test(1, 4, 0, 0);
        x.test(2, 9, 0, 0);
        due("both may fail", x.view(1, 0, 0, 1, 0), 1);
        nodesAre(x, 1, 1, 2, 4);
        arcsAre(x, 1, new long[][] {{0, 1, 3}, {0, 0, 0}});
        due("hidden", x.told(1, 3), 2);
        due("node first", x.hidden(1, 0, 1), 1);
        due("an arc of a hidden node is not asked", x.hidden(1, 1, 1), 2);
        due("mode 1, nodes first", x.view(1, 0, 0, 1, 1), 2);
        due("broken by", x.told(2, 5), DIVISION);
        x.set(0, 0, 1, 1);
        due("now by the first arc that fails", x.told(2, 5), INDEX);
        due("and the other hides", x.told(1, 3), 2);
        x.set(0, 1, 1, 3);
        x.set(0, 1, 2, 3);
        due("no longer broken", x.told(2, 5), 0);
        due("no longer hiding", x.told(1, 3), 0);
        due("view", x.same(1, 2), 1);
    }

    private static void viewFilterBudgets() {
        // Ten nodes, and tests of 199, 200 and 201 steps: trees of ANDs, then NOTs.
        ViewsJoins x = withNodes(1, 1, 1, 1, 1, 1, 1, 1, 1, 1);
        x.test(0, 0, 0, 0);
        x.test(5, 0, 0, 0);
        x.test(5, 0, 1, 1);
        x.test(5, 0, 2, 2);
        x.test(5, 0, 3, 3);
        x.test(5, 0, 4, 4);
        x.test(5, 0, 5, 5);
        // Test k (k <= 6) has 2 ** (k + 1) - 1 steps: 1, 3, 7, 15, 31, 63, 127.
        x.test(5, 0, 6, 5);
        x.test(5, 0, 7, 1);
        x.test(4, 0, 8, 0);
        x.test(4, 0, 9, 0);
        x.test(4, 0, 10, 0);
        x.test(4, 0, 11, 0);
        // 127 + 63 + 1 = 191; 191 + 3 + 1 = 195; then 196 .. 199 by four NOTs.
        due("200 steps", x.test(4, 0, 12, 0), 13);
        due("and one yes", x.test(4, 0, 13, 0), 14);
        due("10 nodes with 200 steps", x.view(1, 0, 13, -1, 0), 1);
        due("2000 steps", x.told(1, 5), 0);
        due("10 nodes with 201 steps", x.view(1, 0, 14, -1, 0), 2);
        due("2010 steps", x.told(2, 5), SPENT);
        x.arc(0, 0, 0, 1);
        due("and an arc with one", x.view(1, 0, 13, 0, 0), 3);
        // Test 13 says no (an odd count of NOTs), so no arc is asked.
        due("not asked", x.told(3, 5), 0);
        due("199 steps that say yes", x.view(1, 0, 12, 0, 1), 4);
        due("1991 steps", x.told(4, 5), 0);
        due("one arc", x.told(4, 1), 1);
        for (int e = 0; e < 9; e++) {
            x.arc(0, 0, 0, 1);
        }
        due("10 arcs: 2000 steps", x.told(4, 5), 0);
        x.arc(0, 0, 0, 1);
        due("11 arcs: 2001 steps", x.told(4, 5), SPENT);
        due("each view has its own steps", x.view(1, 1, 13, -1, 0), 5);
        due("of a filter with 2000", x.told(5, 5), 0);
        failureBudget();
    }

    private static void failureBudget() {
        ViewsJoins x = withNodes(0, 0, 0, 0, 0, 0, 0, 0, 2);
        x.test(1, 4, 0, 0);
        x.test(7, 0, 0, 0);
        x.view(1, 0, 0, -1, 0);
        due("eight hidden", x.told(1, 3), 8);
        due("one left", x.told(1, 0), 1);
        x.view(1, 0, 1, -1, 1);
        due("eight mended", x.told(2, 5), 0);
        due("none hidden", x.told(2, 3), 0);
        x.set(0, 0, 8, 0);
        due("nine", x.told(1, 5), SPENT);
        due("nine mended", x.told(2, 5), SPENT);
        x.set(0, 0, 0, 2);
        due("eight again", x.told(1, 5), 0);
        x.arc(0, 0, 0, 0);
        x.view(1, 0, 0, 0, 0);
        due("the ninth is an arc's", x.told(3, 5), SPENT);
        x.test(6, 0, 1, 0);
        x.view(1, 0, 2, -1, 1);
        due("mode 1: one mended, the next breaks", x.told(4, 5), DIVISION);
        x.test(5, 0, 1, 1);
        x.view(1, 0, 3, -1, 0);
        due("no ends an and", x.told(5, 5), 0);
        x.test(6, 0, 1, 1);
        x.view(1, 0, 4, -1, 0);
        due("two of each node", x.told(6, 5), SPENT);
    }

    private static void viewTurnedJoinedLess() {
        ViewsJoins x = new ViewsJoins();
        x.graph(2);
        x.graph(3);
        x.set(0, 0, 0, 1);
        x.set(0, 0, 1, 2);
        x.set(1, 0, 0, 10);
        x.set(1, 0, 1, 20);
        x.set(1, 0, 2, 30);
        x.arc(0, 0, 1, 5);
        x.arc(0, 0, 1, 6);
        x.arc(0, 1, 1, 7);
        x.arc(1, 1, 0, 8);
        x.arc(1, 0, 1, 9);
        x.arc(1, 2, 1, 10);
        x.arc(1, 2, 1, 11);
        x.view(2, 0, 0, 0, 0);
        nodesAre(x, 2, 1, 2);
        arcsAre(x, 2, new long[][] {{1, 0, 5}, {1, 0, 6}, {1, 1, 7}});
        x.view(3, 0, 1, 0, 0);
        nodesAre(x, 3, 1, 2, 30);
        arcsAre(x, 3, new long[][] {{0, 1, 5}, {0, 1, 6}, {1, 1, 7}, {1, 0, 8}, {2, 1, 10}, {2, 1, 11}});
        x.view(3, 1, 0, 0, 0);
        nodesAre(x, 4, 10, 20, 30);
        arcsAre(x, 4, new long[][] {{1, 0, 8}, {0, 1, 9}, {2, 1, 10}, {2, 1, 11}, {1, 1, 7}});
        x.view(4, 0, 1, 0, 0);
        nodesAre(x, 5, 1, 2);
        arcsAre(x, 5, new long[][] {{1, 1, 7}});
        x.view(4, 1, 0, 0, 0);
        nodesAre(x, 6, 10, 20, 30);
        arcsAre(x, 6, new long[][] {{1, 0, 8}, {2, 1, 10}, {2, 1, 11}});
        x.view(4, 0, 0, 0, 0);
        arcsAre(x, 7, new long[][] {});
        x.view(3, 0, 0, 0, 0);
        due("joined with the same", x.same(0, 8), 1);
        x.graph(2);
        x.arc(9, 0, 1, 1);
        x.view(4, 0, 9, 0, 0);
        arcsAre(x, 10, new long[][] {{1, 1, 7}});
        x.view(3, 9, 0, 0, 0);
        arcsAre(x, 11, new long[][] {{0, 1, 1}, {1, 1, 7}});
        upsAre(x, 4, 0, 1, 0, 1, NONE);
    }

    private static void viewProduct() {
        ViewsJoins x = new ViewsJoins();
        x.graph(2);
        x.graph(3);
        x.set(0, 0, 0, 1);
        x.set(0, 0, 1, Long.MAX_VALUE);
        x.set(1, 0, 1, 1);
        x.set(1, 0, 2, 2);
        x.arc(0, 0, 1, 3);
        x.arc(1, 2, 0, Long.MAX_VALUE);
        x.arc(1, 1, 1, 5);
        x.view(5, 0, 1, 0, 0);
        nodesAre(x, 2, 1, 2, 3, Long.MAX_VALUE, Long.MIN_VALUE, Long.MIN_VALUE + 1);
        arcsAre(x, 2, new long[][] {{2, 3, Long.MAX_VALUE - 2}, {1, 4, 15}});
        x.view(5, 0, 1, 1, 0);
        long[][] apart = {{0, 3, 3}, {1, 4, 3}, {2, 5, 3},
            {2, 0, Long.MAX_VALUE}, {1, 1, 5}, {5, 3, Long.MAX_VALUE}, {4, 4, 5}};
        arcsAre(x, 3, apart);
        x.view(5, 0, 1, 2, 0);
        due("both sorts", x.told(4, 1), 9);
        for (int e = 0; e < 7; e++) {
            due("first ONE", x.end(4, e, 0), apart[e][0]);
            due("first ONE", x.value(4, 1, e), apart[e][2]);
        }
        due("then BOTH", x.end(4, 7, 1), 3);
        due("then BOTH", x.end(4, 8, 1), 4);
        x.view(5, 1, 0, 0, 0);
        nodesAre(x, 5, 1, Long.MAX_VALUE, 2, Long.MIN_VALUE, 3, Long.MIN_VALUE + 1);
        arcsAre(x, 5, new long[][] {{4, 1, Long.MAX_VALUE - 2}, {2, 3, 15}});
        x.test(0, Long.MAX_VALUE, 0, 0);
        x.view(1, 0, 0, -1, 0);
        x.view(5, 6, 1, 2, 0);
        due("by none", x.told(7, 0), 0);
        due("by none", x.told(7, 1), 0);
    }

    private static void viewLines() {
        ViewsJoins x = withNodes(7, 8, 9);
        x.arc(0, 0, 1, 1);
        x.arc(0, 1, 2, 2);
        x.arc(0, 1, 1, 3);
        x.arc(0, 2, 0, 4);
        x.view(6, 0, 0, 0, 0);
        nodesAre(x, 1, 1, 2, 3, 4);
        arcsAre(x, 1, new long[][] {{0, 1, 8}, {0, 2, 8}, {1, 3, 9}, {2, 1, 8}, {2, 2, 8}, {3, 0, 7}});
        x.view(6, 1, 0, 0, 0);
        nodesAre(x, 2, 8, 8, 9, 8, 8, 7);
    }

    private static void viewGathered() {
        ViewsJoins x = withNodes(5, -3, 4, 10, 6);
        x.arc(0, 4, 0, 1);
        x.arc(0, 0, 4, 2);
        x.arc(0, 0, 2, 3);
        x.arc(0, 2, 4, 9);
        x.arc(0, 1, 1, -8);
        x.arc(0, 3, 0, 100);
        x.arc(0, 2, 2, -4);
        x.arc(0, 0, 3, 200);
        x.label(2, 0, 7);
        x.label(2, 1, 0);
        x.label(2, 2, 7);
        x.label(2, 4, 3);
        x.label(2, 5, 9);
        x.view(7, 0, 2, 0, 0);
        nodesAre(x, 1, -3, 6, 9);
        arcsAre(x, 1, new long[][] {{0, 0, -8}, {1, 2, 1}, {2, 1, 11}, {2, 2, -1}});
        x.view(7, 0, 2, 1, 0);
        nodesAre(x, 2, -3, 6, 5);
        arcsAre(x, 2, new long[][] {{0, 0, -8}, {1, 2, 1}, {2, 1, 9}, {2, 2, 3}});
        x.view(7, 0, 2, 2, 0);
        nodesAre(x, 3, 1, 1, 2);
        arcsAre(x, 3, new long[][] {{0, 0, 1}, {1, 2, 1}, {2, 1, 2}, {2, 2, 2}});
        x.view(7, 0, 0, 0, 0);
        due("without labels", x.told(4, 0), 0);
        due("without labels", x.told(4, 1), 0);
        gatheredLong();
    }

    private static void gatheredLong() {
        ViewsJoins x = withNodes(Long.MAX_VALUE, 1, -5);
        x.label(0, 0, 1);
        x.label(0, 1, 1);
        x.label(0, 2, 1);
        x.view(7, 0, 0, 0, 0);
        due("too long on the way", x.told(1, 5), LONG);
        x.set(0, 0, 1, -5);
        x.set(0, 0, 2, 5);
        nodesAre(x, 1, Long.MAX_VALUE);
        x.set(0, 0, 0, Long.MIN_VALUE);
        due("too low", x.told(1, 5), LONG);
        x.set(0, 0, 1, 0);
        due("just fits", x.value(1, 0, 0), Long.MIN_VALUE + 5);
        x.arc(0, 0, 1, Long.MIN_VALUE);
        x.arc(0, 2, 2, -1);
        due("too low by arcs", x.told(1, 5), LONG);
        x.view(7, 0, 0, 1, 0);
        due("greatest never is", x.value(2, 1, 0), -1);
        x.view(7, 0, 0, 2, 0);
        due("nor how many", x.value(3, 1, 0), 2);
        x.label(0, 2, -1);
        due("arc to none is left out", x.value(1, 1, 0), Long.MIN_VALUE);
    }

    private static void viewLarge() {
        ViewsJoins x = new ViewsJoins();
        x.graph(10);
        x.graph(4);
        x.graph(1);
        x.view(5, 0, 1, 0, 0);
        due("40 nodes", x.told(3, 0), 40);
        x.view(3, 3, 2, 0, 0);
        due("40 nodes joined", x.told(4, 0), 40);
        x.graph(11);
        x.view(5, 5, 1, 0, 0);
        due("44 nodes", x.told(6, 5), LARGE);
        for (int e = 0; e < 30; e++) {
            x.arc(0, e % 10, (e + 1) % 10, e);
        }
        x.view(5, 0, 1, 1, 0);
        due("120 arcs", x.told(7, 1), 120);
        x.arc(2, 0, 0, 1);
        x.view(3, 7, 2, 0, 0);
        due("121 arcs", x.told(8, 5), LARGE);
        x.view(3, 2, 7, 0, 0);
        due("121 arcs", x.told(9, 5), LARGE);
        x.arc(1, 0, 0, 1);
        due("130 arcs", x.told(7, 5), LARGE);
        x.view(6, 0, 0, 0, 0);
        due("90 of lines", x.told(10, 1), 90);
        x.view(5, 0, 1, 0, 0);
        due("30 arcs", x.told(11, 1), 30);
        x.arc(1, 1, 1, 1);
        due("60 arcs", x.told(11, 1), 60);
        x.view(6, 11, 0, 0, 0);
        due("60 nodes of lines", x.told(12, 5), LARGE);
        x.graph(1);
        for (int e = 0; e < 11; e++) {
            x.arc(13, 0, 0, e);
        }
        x.view(6, 13, 0, 0, 0);
        due("121 arcs of lines", x.told(14, 5), LARGE);
        x.graph(1);
        for (int e = 0; e < 10; e++) {
            x.arc(15, 0, 0, e);
        }
        x.view(6, 15, 0, 0, 0);
        due("100 arcs of lines", x.told(16, 1), 100);
        x.graph(1);
        for (int e = 0; e < 12; e++) {
            x.arc(17, 0, 0, e);
        }
        x.view(5, 15, 17, 0, 0);
        due("120 arcs of BOTH", x.told(18, 1), 120);
        x.view(5, 15, 17, 2, 0);
        due("142 arcs of both sorts", x.told(19, 5), LARGE);
        x.view(3, 16, 18, 0, 0);
        due("an arc of b that a has does not count", x.told(20, 1), 100);
        linesTooMany();
    }

    private static void linesTooMany() {
        ViewsJoins x = new ViewsJoins();
        x.graph(2);
        x.graph(2);
        for (int e = 0; e < 20; e++) {
            x.arc(0, 0, 1, e);
        }
        x.view(5, 0, 1, 1, 0);
        x.view(6, 2, 0, 0, 0);
        due("40 nodes of lines", x.told(3, 0), 40);
        due("no arcs", x.told(3, 1), 0);
        x.arc(0, 0, 1, 20);
        due("42 nodes of lines, no arcs", x.told(3, 5), LARGE);
    }

    private static void viewOfBroken() {
        ViewsJoins x = withBrokenView();
        x.test(2, 1, 0, 0);
        x.set(0, 1, 0, 7);
        x.view(1, 0, -1, 1, 1);
        due("broken by INDEX", x.told(2, 5), INDEX);
        for (int kind = 2; kind <= 7; kind++) {
            x.view(kind, 1, kind == 7 ? 0 : 2, 0, 0);
            due("by a's, kind " + kind, x.told(x.count(0) - 1, 5), DIVISION);
        }
        for (int kind = 3; kind <= 5; kind++) {
            x.view(kind, 0, 2, 0, 0);
            due("by b's, kind " + kind, x.told(x.count(0) - 1, 5), INDEX);
        }
        x.view(1, 1, -1, -1, 0);
        due("filter of it", x.told(x.count(0) - 1, 5), DIVISION);
        x.set(0, 0, 1, 1);
        due("mended at its root", x.told(3, 5), 0);
        due("then by b's", x.told(4, 5), INDEX);
    }

    private static void promise8Live() {
        check.at("promise 8");
        ViewsJoins x = withBrokenView();
        due("a base graph", x.live(0, false), BAD);
        due("a base graph", x.live(0, true), BAD);
        due("no graph", x.live(2, false), BAD);
        for (int wrong : NO_NUMBERS) {
            due("wrong g", x.live(wrong, true), BAD);
        }
        due("broken", x.live(1, false), BROKEN);
        due("it is live", x.told(1, 4), 1);
        due("it was so", x.live(1, true), 0);
        x.set(0, 0, 1, 4);
        x.view(2, 1, 0, 0, 0);
        due("fixed", x.live(1, false), 1);
        due("it was so", x.live(1, false), 0);
        due("told", x.told(1, 4), 0);
        x.set(0, 0, 0, 3);
        x.set(0, 0, 1, 0);
        x.arc(0, 2, 2, 1);
        nodesAre(x, 1, 1, 1);
        nodesAre(x, 2, 1, 1);
        due("not broken by what comes", x.told(1, 5), 0);
        due("live again", x.live(1, true), 1);
        due("broken now", x.told(1, 5), DIVISION);
        due("and what is of it", x.told(2, 5), DIVISION);
        x.set(0, 0, 1, 6);
        nodesAre(x, 1, 3, 6, 1);
        nodesAre(x, 2, 3, 6, 1);
        arcsAre(x, 2, new long[][] {{1, 0, 4}, {2, 2, 1}});
        due("the last one fixed", x.live(2, false), 1);
        x.set(0, 0, 0, 2);
        nodesAre(x, 1, 2, 6, 1);
        nodesAre(x, 2, 3, 6, 1);
        due("fixed again", x.live(2, true), 1);
        nodesAre(x, 2, 2, 6, 1);
        liveKeepsHiddenAndUps();
    }

    private static void liveKeepsHiddenAndUps() {
        ViewsJoins x = withNodes(0, 1, 2);
        x.arc(0, 1, 2, 0);
        x.test(1, 2, 0, 0);
        x.view(1, 0, 0, 0, 0);
        x.live(1, false);
        x.set(0, 0, 0, 1);
        x.set(0, 1, 0, 1);
        due("hidden stay", x.told(1, 3), 2);
        due("hidden arc stays", x.hidden(1, 1, 0), 1);
        due("ups stay", x.up(1, 0, 0, 0), 1);
        due("downs stay", x.down(1, 0, 0, 0), NONE);
        due("asked as it is", x.ask(1, 0, 0, 0), 1);
        due("live", x.live(1, true), 1);
        due("none hidden", x.told(1, 3), 0);
        due("new ups", x.up(1, 0, 0, 0), 0);
        x.label(1, 0, 4);
        x.view(7, 0, 1, 2, 0);
        x.live(2, false);
        x.label(1, 1, 4);
        due("labels do not come to it", x.value(2, 0, 0), 1);
        x.live(2, true);
        due("now they do", x.value(2, 0, 0), 2);
    }

    private static void promise9Told() {
        check.at("promise 9");
        ViewsJoins x = withBrokenView();
        for (int what = 0; what <= 5; what++) {
            due("no graph", x.told(2, what), BAD);
        }
        for (int wrong : NO_NUMBERS) {
            due("wrong g", x.told(wrong, 0), BAD);
            due("wrong what", x.told(0, wrong), BAD);
            due("wrong what ahead of BROKEN", x.told(1, wrong), BAD);
        }
        due("what 6", x.told(0, 6), BAD);
        int[] ofBase = {3, 1, 0, 0, 1, 0};
        int[] ofBroken = {BROKEN, BROKEN, 1, BROKEN, 1, DIVISION};
        for (int what = 0; what <= 5; what++) {
            due("of base " + what, x.told(0, what), ofBase[what]);
            due("of a broken one " + what, x.told(1, what), ofBroken[what]);
        }
        x.view(1, 0, 0, -1, 0);
        x.live(2, false);
        int[] ofFixed = {2, 0, 1, 1, 0, 0};
        for (int what = 0; what <= 5; what++) {
            due("of a fixed one " + what, x.told(2, what), ofFixed[what]);
        }
        for (int kind = 2; kind <= 7; kind++) {
            x.view(kind, 2, 2, 0, 0);
        }
        due("kind 2", x.told(3, 2), 2);
        due("table 2 is fine", x.told(8, 2), 7);
        due("of a filter that hides, none itself", x.told(3, 3), 0);
    }

    private static void promise10End() {
        check.at("promise 10");
        ViewsJoins x = withBrokenView();
        due("from", x.end(0, 0, 0), 0);
        due("to", x.end(0, 0, 1), 1);
        due("which 2", x.end(0, 0, 2), BAD);
        due("arc 1", x.end(0, 1, 0), BAD);
        due("graph 2", x.end(2, 0, 0), BAD);
        for (int wrong : NO_NUMBERS) {
            due("wrong g", x.end(wrong, 0, 0), BAD);
            due("wrong e", x.end(0, wrong, 0), BAD);
            due("wrong which", x.end(0, 0, wrong), BAD);
            due("BROKEN ahead of a wrong e", x.end(1, wrong, 0), BROKEN);
            due("a wrong which ahead of BROKEN", x.end(1, 0, wrong), BAD);
        }
        due("broken", x.end(1, 0, 1), BROKEN);
    }

    private static void promise11Value() {
        check.at("promise 11");
        ViewsJoins x = withBrokenView();
        due("node", x.value(0, 0, 0), 1);
        due("arc", x.value(0, 1, 0), 4);
        due("what 2", x.value(0, 2, 0), BAD);
        due("node 3", x.value(0, 0, 3), BAD);
        due("arc 1", x.value(0, 1, 1), BAD);
        due("graph 2", x.value(2, 0, 0), BAD);
        for (int wrong : NO_NUMBERS) {
            due("wrong g", x.value(wrong, 0, 0), BAD);
            due("wrong what", x.value(0, wrong, 0), BAD);
            due("wrong node", x.value(0, 0, wrong), BAD);
            due("wrong arc", x.value(0, 1, wrong), BAD);
            due("BROKEN ahead of a wrong i", x.value(1, 0, wrong), BROKEN);
            due("a wrong what ahead of BROKEN", x.value(1, wrong, 0), BAD);
        }
        x.set(0, 0, 0, Long.MIN_VALUE);
        due("least", x.value(0, 0, 0), Long.MIN_VALUE);
    }

    /** Graphs 0 (2 nodes, arcs 0-1, 1-1) and 1 (3 nodes, arcs 1-1, 2-0), then a view of each kind 2 .. 7. */
    private static ViewsJoins withAllKinds() {
        ViewsJoins x = new ViewsJoins();
        x.graph(2);
        x.graph(3);
        x.arc(0, 0, 1, 1);
        x.arc(0, 1, 1, 2);
        x.arc(1, 1, 1, 3);
        x.arc(1, 2, 0, 4);
        x.label(0, 0, 5);
        x.label(0, 1, 2);
        x.label(0, 2, 5);
        x.view(2, 0, 0, 0, 0);
        x.view(3, 0, 1, 0, 0);
        x.view(4, 1, 0, 0, 0);
        x.view(5, 0, 1, 2, 0);
        x.view(6, 0, 0, 0, 0);
        x.view(7, 1, 0, 0, 0);
        return x;
    }

    private static void promise12Up() {
        check.at("promise 12");
        ViewsJoins x = withAllKinds();
        upsAre(x, 2, 0, 0, 0, 1);
        upsAre(x, 2, 1, 0, 0, 1);
        upsAre(x, 2, 1, 1, NONE, NONE);
        upsAre(x, 3, 0, 0, 0, 1, NONE);
        upsAre(x, 3, 0, 1, 0, 1, 2);
        upsAre(x, 3, 1, 0, 0, 1, NONE);
        upsAre(x, 3, 1, 1, NONE, NONE, 1);
        upsAre(x, 4, 0, 0, 0, 1, 2);
        upsAre(x, 4, 0, 1, NONE, NONE, NONE);
        upsAre(x, 4, 1, 0, 1);
        upsAre(x, 4, 1, 1, NONE);
        upsAre(x, 5, 0, 0, 0, 0, 0, 1, 1, 1);
        upsAre(x, 5, 0, 1, 0, 1, 2, 0, 1, 2);
        upsAre(x, 5, 1, 0, 0, 0, 0, 1, 1, 1, NONE, NONE, NONE, NONE, 0, 0, 1, 1);
        upsAre(x, 5, 1, 1, NONE, NONE, NONE, NONE, NONE, NONE, 0, 1, 0, 1, 0, 1, 0, 1);
        upsAre(x, 6, 0, 0, 0, 1);
        upsAre(x, 6, 0, 1, NONE, NONE);
        upsAre(x, 6, 1, 0, 1, 1);
        upsAre(x, 6, 1, 1, NONE, NONE);
        upsAre(x, 7, 0, 0, 1, 0);
        upsAre(x, 7, 1, 0, 0, 1);
        upsAre(x, 7, 0, 1, NONE, NONE);
        upsAre(x, 7, 1, 1, NONE, NONE);
        due("a base graph", x.up(0, 0, 0, 0), BAD);
        due("graph 8", x.up(8, 0, 0, 0), BAD);
        due("what 2", x.up(2, 2, 0, 0), BAD);
        due("which 2", x.up(2, 0, 0, 2), BAD);
        ViewsJoins y = withBrokenView();
        due("broken", y.up(1, 0, 0, 0), BROKEN);
        for (int wrong : NO_NUMBERS) {
            due("wrong g", x.up(wrong, 0, 0, 0), BAD);
            due("wrong i", x.up(2, 0, wrong, 0), BAD);
            due("wrong i ahead of NONE", x.up(2, 0, wrong, 1), BAD);
            due("BROKEN ahead of i", y.up(1, 0, wrong, 0), BROKEN);
            due("what ahead of BROKEN", y.up(1, wrong, 0, 0), BAD);
            due("which ahead of BROKEN", y.up(1, 0, 0, wrong), BAD);
        }
    }

    private static void promise13Down() {
        check.at("promise 13");
        ViewsJoins x = withAllKinds();
        due("turned", x.down(2, 1, 1, 0), 1);
        due("turned, of b", x.down(2, 1, 1, 1), NONE);
        due("joined, node of a", x.down(3, 0, 2, 0), NONE);
        due("joined, node of b", x.down(3, 0, 2, 1), 2);
        due("joined, arc of b that is not there", x.down(3, 1, 0, 1), NONE);
        due("joined, arc of b", x.down(3, 1, 1, 1), 2);
        due("less", x.down(4, 1, 1, 0), 0);
        due("product, first node of x", x.down(5, 0, 1, 0), 3);
        due("product, first node of y", x.down(5, 0, 1, 1), 1);
        due("product, first arc of f", x.down(5, 1, 1, 1), 7);
        due("lines, first arc of node 1", x.down(6, 1, 1, 0), 0);
        due("lines, none of node 0", x.down(6, 1, 0, 0), NONE);
        due("gathered, the least", x.down(7, 0, 0, 0), 1);
        due("gathered, not the least", x.down(7, 0, 2, 0), NONE);
        due("too large", x.down(2, 0, 2, 0), NONE);
        due("a base graph", x.down(0, 0, 0, 0), BAD);
        due("graph 8", x.down(8, 0, 0, 0), BAD);
        due("what 2", x.down(2, 2, 0, 0), BAD);
        due("which 2", x.down(2, 0, 0, 2), BAD);
        ViewsJoins y = withBrokenView();
        for (int wrong : NO_NUMBERS) {
            due("wrong g", x.down(wrong, 0, 0, 0), BAD);
            due("no such i", x.down(2, 0, wrong, 0), NONE);
            due("no such i, where there is no UP", x.down(2, 0, wrong, 1), NONE);
            due("no such i, where some have no UP", x.down(3, 1, wrong, 0), NONE);
            due("BROKEN", y.down(1, 0, wrong, 0), BROKEN);
            due("what ahead of BROKEN", y.down(1, wrong, 0, 0), BAD);
            due("which ahead of BROKEN", y.down(1, 0, 0, wrong), BAD);
        }
    }

    private static void promise14Hidden() {
        check.at("promise 14");
        ViewsJoins x = withNodes(0, 1, 0, 2);
        x.arc(0, 1, 3, 4);
        x.arc(0, 3, 1, 1L << 32);
        x.arc(0, 1, 1, -1);
        x.test(1, 2, 0, 0);
        x.test(2, 1, 0, 0);
        x.view(1, 0, 0, 1, 0);
        int[][] rows = {{0, 0, DIVISION}, {0, 2, DIVISION}, {1, 0, INDEX}, {1, 2, INDEX}};
        for (int k = 0; k < rows.length; k++) {
            for (int what = 0; what <= 2; what++) {
                due("hidden(1, " + k + ", " + what + ")", x.hidden(1, k, what), rows[k][what]);
            }
        }
        due("the fifth", x.hidden(1, 4, 0), NONE);
        due("what 3", x.hidden(1, 0, 3), BAD);
        due("a base graph", x.hidden(0, 0, 0), BAD);
        due("graph 2", x.hidden(2, 0, 0), BAD);
        x.view(2, 1, 0, 0, 0);
        due("another kind", x.hidden(2, 0, 0), BAD);
        x.view(1, 0, 0, 1, 1);
        due("broken", x.hidden(3, 0, 0), BROKEN);
        x.view(2, 3, 0, 0, 0);
        due("another kind, broken", x.hidden(4, 0, 0), BAD);
        for (int wrong : NO_NUMBERS) {
            due("wrong g", x.hidden(wrong, 0, 0), BAD);
            due("wrong k", x.hidden(1, wrong, 0), NONE);
            due("BROKEN ahead of k", x.hidden(3, wrong, 0), BROKEN);
            due("what ahead of BROKEN", x.hidden(3, 0, wrong), BAD);
        }
    }

    private static void promise15Same() {
        check.at("promise 15");
        ViewsJoins x = withBrokenView();
        x.graph(3);
        due("arcs fewer", x.same(0, 2), 0);
        x.arc(2, 0, 1, 4);
        due("values other", x.same(0, 2), 0);
        x.set(2, 0, 0, 1);
        x.set(2, 0, 2, 1);
        due("alike", x.same(0, 2), 1);
        due("with itself", x.same(0, 0), 1);
        x.set(2, 1, 0, 5);
        due("arc's value other", x.same(2, 0), 0);
        x.view(2, 0, 0, 0, 0);
        due("ends other", x.same(0, 3), 0);
        x.view(2, 3, 0, 0, 0);
        due("turned twice", x.same(0, 4), 1);
        x.graph(2);
        due("nodes fewer", x.same(0, 5), 0);
        x.graph(3);
        x.arc(6, 0, 2, 4);
        x.set(6, 0, 0, 1);
        x.set(6, 0, 2, 1);
        due("TO other", x.same(0, 6), 0);
        x.graph(1);
        x.graph(2);
        x.graph(2);
        due("only nodes fewer", x.same(7, 8), 0);
        due("only nodes more", x.same(8, 7), 0);
        due("alike", x.same(8, 9), 1);
        x.set(8, 0, 0, 1);
        due("only node 0 other", x.same(8, 9), 0);
        x.set(9, 0, 0, 1);
        x.arc(9, 0, 0, 0);
        due("only arcs fewer", x.same(8, 9), 0);
        due("only arcs more", x.same(9, 8), 0);
        due("a broken", x.same(1, 0), BROKEN);
        due("b broken", x.same(0, 1), BROKEN);
        due("both", x.same(1, 1), BROKEN);
        for (int wrong : NO_NUMBERS) {
            due("wrong a", x.same(wrong, 0), BAD);
            due("wrong b", x.same(0, wrong), BAD);
            due("wrong b ahead of BROKEN", x.same(1, wrong), BAD);
            due("wrong a ahead of BROKEN", x.same(wrong, 1), BAD);
        }
        due("graph 10", x.same(0, 10), BAD);
    }

    private static void promise16Reach() {
        check.at("promise 16");
        ViewsJoins x = new ViewsJoins();
        x.graph(12);
        for (int i = 10; i >= 0; i--) {
            x.arc(0, i, i + 1, 0);
        }
        for (int s = 0; s < 12; s++) {
            due("down the chain", x.reach(0, s), 12 - s);
        }
        x.arc(0, 4, 2, 0);
        x.arc(0, 5, 5, 0);
        due("with a ring", x.reach(0, 4), 10);
        due("with a ring of one", x.reach(0, 5), 7);
        x.view(2, 0, 0, 0, 0);
        due("turned", x.reach(1, 11), 12);
        due("turned, from the first", x.reach(1, 0), 1);
        x.graph(3);
        x.arc(2, 0, 1, 1);
        x.arc(2, 1, 2, 1);
        x.view(5, 0, 2, 1, 0);
        due("of 36", x.reach(3, 0), 36);
        due("from the last of 36", x.reach(3, 35), 1);
        due("node 12", x.reach(0, 12), BAD);
        due("node 36", x.reach(3, 36), BAD);
        due("graph 4", x.reach(4, 0), BAD);
        ViewsJoins y = withBrokenView();
        due("broken", y.reach(1, 0), BROKEN);
        for (int wrong : NO_NUMBERS) {
            due("wrong g", x.reach(wrong, 0), BAD);
            due("wrong s", x.reach(0, wrong), BAD);
            due("BROKEN ahead of s", y.reach(1, wrong), BROKEN);
        }
    }

    private static void promise17Ask() {
        check.at("promise 17");
        askNumbers();
        askArcs();
        askDeep();
        askParts();
        askBudgets();
        ViewsJoins x = withBrokenView();
        due("yes", x.ask(0, 0, 0, 0), 1);
        due("fails", x.ask(0, 0, 1, 0), -11);
        due("no", x.ask(0, 1, 0, 0), 0);
        due("broken", x.ask(1, 0, 0, 0), BROKEN);
        due("node 3", x.ask(0, 0, 3, 0), BAD);
        due("arc 1", x.ask(0, 1, 1, 0), BAD);
        due("what 2", x.ask(0, 2, 0, 0), BAD);
        due("test 1", x.ask(0, 0, 0, 1), BAD);
        due("graph 2", x.ask(2, 0, 0, 0), BAD);
        for (int wrong : NO_NUMBERS) {
            due("wrong g", x.ask(wrong, 0, 0, 0), BAD);
            due("wrong i", x.ask(0, 0, wrong, 0), BAD);
            due("BROKEN ahead of i", x.ask(1, 0, wrong, 0), BROKEN);
            due("what ahead of BROKEN", x.ask(1, wrong, 0, 0), BAD);
            due("test ahead of BROKEN", x.ask(1, 0, 0, wrong), BAD);
        }
    }

    private static void askNumbers() {
        ViewsJoins x = withNodes(5, Long.MIN_VALUE, -1, 3, 1L << 32, (1L << 32) + 2, 4, 0, 2);
        x.test(0, 5, 0, 0);
        x.test(0, 4, 0, 0);
        due("5 above 5", x.ask(0, 0, 0, 0), 0);
        due("5 above 4", x.ask(0, 0, 0, 1), 1);
        due("least above 4", x.ask(0, 0, 1, 1), 0);
        x.test(1, Long.MIN_VALUE, 0, 0);
        due("least by -1", x.ask(0, 0, 2, 2), 1);
        due("least by least", x.ask(0, 0, 1, 2), 1);
        due("least by 5", x.ask(0, 0, 0, 2), 0);
        due("least by 0", x.ask(0, 0, 7, 2), -11);
        x.test(1, 0, 0, 0);
        due("0 by 5", x.ask(0, 0, 0, 3), 1);
        due("0 by 0", x.ask(0, 0, 7, 3), -11);
        x.test(2, 9, 0, 0);
        due("bit 3 of 9", x.ask(0, 0, 3, 4), 1);
        due("bit 0 of 9, as an int", x.ask(0, 0, 4, 4), 1);
        due("bit 2 of 9, as an int", x.ask(0, 0, 5, 4), 0);
        due("bit 0, least as an int", x.ask(0, 0, 1, 4), 1);
        due("bit 4", x.ask(0, 0, 6, 4), -12);
        due("bit -1", x.ask(0, 0, 2, 4), -12);
        due("bit 5", x.ask(0, 0, 0, 4), -12);
        due("bit 2 of 9", x.ask(0, 0, 8, 4), 0);
    }

    private static void askArcs() {
        ViewsJoins x = withNodes(9, 0, 2);
        x.arc(0, 0, 1, 1);
        x.arc(0, 0, 1, 0);
        x.arc(0, 1, 0, 2);
        x.arc(0, 0, 2, 3);
        x.test(3, 3, 0, 0);
        x.test(3, 2, 0, 0);
        x.test(3, 0, 0, 0);
        x.test(3, Long.MIN_VALUE, 0, 0);
        x.test(3, (1L << 32) + 1, 0, 0);
        due("three from 0", x.ask(0, 0, 0, 0), 1);
        due("three from 1", x.ask(0, 0, 1, 0), 0);
        due("none from 2", x.ask(0, 0, 2, 2), 1);
        due("c below 0", x.ask(0, 0, 2, 3), 1);
        due("c far above", x.ask(0, 0, 1, 4), 0);
        due("two beside", x.ask(0, 1, 1, 1), 1);
        due("the other way is another", x.ask(0, 1, 2, 1), 0);
        due("itself", x.ask(0, 1, 3, 1), 0);
        x.view(2, 0, 0, 0, 0);
        due("of the view as it is", x.ask(1, 0, 1, 1), 1);
        x.test(1, 4, 0, 0);
        due("an arc's own value", x.ask(0, 1, 2, 5), 1);
        due("an arc's own value is 0", x.ask(0, 1, 1, 5), -11);
        x.test(8, 0, 5, 0);
        due("the node that it goes to", x.ask(0, 1, 0, 6), -11);
        due("the node that it goes to", x.ask(0, 1, 2, 6), 0);
        due("the node that it goes to", x.ask(0, 1, 3, 6), 1);
        due("for some arc: the first fails", x.ask(0, 0, 0, 6), -11);
        due("for some arc: none", x.ask(0, 0, 2, 6), 0);
        due("for some arc: one, no", x.ask(0, 0, 1, 6), 0);
        x.set(0, 0, 1, 8);
        due("for some arc: the last says yes", x.ask(0, 0, 0, 6), 1);
        x.set(0, 0, 2, 0);
        x.set(0, 0, 1, 1);
        due("the first one ends it", x.ask(0, 0, 0, 6), 1);
        ViewsJoins y = withNodes(0, 1);
        y.arc(0, 0, 1, 0);
        y.test(0, 0, 0, 0);
        y.test(8, 0, 0, 0);
        due("arc 0 is one of them", y.ask(0, 0, 0, 1), 1);
        due("not the way back", y.ask(0, 0, 1, 1), 0);
    }

    /** Twenty tests, each a part of the next one. */
    private static void askDeep() {
        int[] sorts = {4, 5, 6, 7, 8};
        for (int sort : sorts) {
            ViewsJoins x = withNodes(1, 1);
            x.arc(0, 0, 0, 1);
            x.test(0, sort == 6 ? 1 : 0, 0, 0);
            for (int t = 1; t < 20; t++) {
                x.test(sort, 0, sort == 5 || sort == 6 ? 0 : t - 1, t - 1);
            }
            int said = sort == 4 || sort == 6 ? 0 : 1;
            due("deep by " + sort + ", node", x.ask(0, 0, 0, 19), said);
            due("deep by " + sort + ", arc", x.ask(0, 1, 0, 19), said);
        }
    }

    private static void askParts() {
        ViewsJoins x = withNodes(0, 3, 20);
        x.test(0, 0, 0, 0);
        x.test(1, 6, 0, 0);
        x.test(2, 8, 0, 0);
        x.test(4, 0, 0, 0);
        x.test(5, 0, 0, 1);
        x.test(6, 0, 0, 1);
        x.test(6, 0, 3, 1);
        x.test(5, 0, 1, 0);
        x.test(5, 0, 1, 2);
        x.test(7, 0, 2, 0);
        x.test(4, 0, 9, 0);
        x.test(4, 0, 2, 0);
        x.test(6, 0, 1, 0);
        int[][] rows = {
            // said of the values 0, 3, 20
            {3, 1, 0, 0}, {4, 0, 1, 0}, {5, -11, 1, 1}, {6, 1, 1, 0}, {7, -11, 1, 0},
            {8, -11, 1, 0}, {9, 0, 1, 0}, {10, 1, 0, 1}, {11, 1, 0, -12}, {12, -11, 1, 1}};
        for (int[] row : rows) {
            for (int i = 0; i < 3; i++) {
                due("ask(0, 0, " + i + ", " + row[0] + ")", x.ask(0, 0, i, row[0]), row[i + 1]);
            }
        }
    }

    private static void askBudgets() {
        ViewsJoins x = withNodes(1, 0);
        x.test(0, 0, 0, 0);
        for (int t = 1; t <= 10; t++) {
            x.test(5, 0, t - 1, t - 1);
        }
        // Test k has 2 ** (k + 1) - 1 steps: 1023 for 9, 2047 for 10.
        due("1023 steps", x.ask(0, 0, 0, 9), 1);
        due("2047 steps", x.ask(0, 0, 0, 10), -15);
        due("1023 steps afresh", x.ask(0, 0, 0, 9), 1);
        x.test(7, 0, 10, 0);
        due("SPENT is not mended", x.ask(0, 0, 0, 11), -15);
        due("no at once", x.ask(0, 0, 1, 10), 0);
        ViewsJoins y = withNodes(0);
        y.test(1, 1, 0, 0);
        y.test(7, 0, 0, 0);
        y.test(6, 0, 1, 1);
        y.test(6, 0, 2, 2);
        y.test(6, 0, 3, 3);
        y.test(6, 0, 4, 1);
        y.test(6, 0, 4, 0);
        y.test(7, 0, 6, 0);
        due("eight mended", y.ask(0, 0, 0, 4), 0);
        due("nine mended", y.ask(0, 0, 0, 5), -15);
        due("the ninth, not mended", y.ask(0, 0, 0, 6), -15);
        due("the ninth, mended in vain", y.ask(0, 0, 0, 7), -15);
        due("eight mended afresh", y.ask(0, 0, 0, 4), 0);
    }

    private static void promise18Count() {
        check.at("promise 18");
        ViewsJoins x = withBrokenView();
        due("graphs", x.count(0), 2);
        due("tests", x.count(1), 1);
        due("fixed", x.count(2), 0);
        x.view(2, 0, 0, 0, 0);
        x.view(2, 2, 0, 0, 0);
        x.live(2, false);
        x.live(3, false);
        x.live(1, false);
        due("fixed", x.count(2), 2);
        x.live(2, true);
        due("fixed", x.count(2), 1);
        due("graphs", x.count(0), 4);
        due("what 3", x.count(3), BAD);
        for (int wrong : NO_NUMBERS) {
            due("wrong what", x.count(wrong), BAD);
        }
    }

    private static void promise19Clear() {
        check.at("promise 19");
        ViewsJoins x = withBrokenView();
        x.view(2, 0, 0, 0, 0);
        x.live(2, false);
        x.view(1, 0, 0, -1, 0);
        x.label(1, 2, 3);
        x.label(3, 39, 9);
        due("clear", x.clear(), 4);
        for (int what = 0; what <= 2; what++) {
            due("nothing left", x.count(what), 0);
        }
        due("no graph", x.told(0, 2), BAD);
        due("label gone", x.label(1, 2, -1), -1);
        due("label gone", x.label(3, 39, -1), -1);
        due("test gone", x.test(4, 0, 0, 0), BAD);
        due("clear again", x.clear(), 0);
        due("from 0 on", x.graph(2), 0);
        nodesAre(x, 0, 0, 0);
        due("no arcs", x.told(0, 1), 0);
        due("arcs from 0 on", x.arc(0, 1, 0, 1), 0);
        due("tests from 0 on", x.test(0, 0, 0, 0), 0);
        due("a view in an old one's place", x.view(2, 0, 0, 0, 0), 1);
        due("live at first", x.told(1, 4), 1);
        due("not broken", x.told(1, 5), 0);
        arcsAre(x, 1, new long[][] {{0, 1, 1}});
        due("in a fixed one's place", x.view(2, 1, 0, 0, 0), 2);
        due("live", x.told(2, 4), 1);
        due("a base one in a view's place", x.graph(3), 3);
        nodesAre(x, 3, 0, 0, 0);
        due("none hidden", x.told(3, 3), 0);
        due("base", x.told(3, 2), 0);
        due("up of a base one", x.up(3, 0, 0, 0), BAD);
        due("in all", x.clear(), 4);
        ViewsJoins y = withBrokenView();
        due("broken", y.told(1, 5), DIVISION);
        y.clear();
        y.graph(1);
        y.graph(2);
        due("a base one in a broken one's place", y.told(1, 5), 0);
        nodesAre(y, 1, 0, 0);
    }
}
