/**
 * The boundary cases that "What it is" and "Terms" name for GRAPHS, BASE ones, TABLES and TESTS:
 * the last that is still allowed and the first that is not, on each side.
 */
public final class EdgesOfTermsTest {
    private static final int BAD = Edges.BAD, FULL = Edges.FULL;
    private static final int NODE = Edges.NODE, ARC = Edges.ARC;
    private static final long LEAST = Edges.LEAST, GREATEST = Edges.GREATEST;

    private static final Check check = new Check();

    public static void main(String[] args) {
        graphsAre24AtMost();
        viewsAreOfElderOnes();
        callsAre512AtMost();
        baseHasOneToTwelveNodes();
        valueIsZeroAtFirst();
        baseHasThirtyArcsAtMost();
        arcsMayBeOfOneNodeAndAlike();
        valuesAreLongs();
        tablesAreFour();
        labelsAreMinusOneToNine();
        labelledNumbersAreZeroTo39();
        labelsAreMinusOneAtFirst();
        testsAre20AtMost();
        partsAreElderTests();
        check.end();
    }

    private static void due(String call, long got, long want) {
        check.due(call, got, want);
    }

    private static void graphsAre24AtMost() {
        check.at("GRAPHS, 24 at most, numbered from 0 on");
        for (int bases = 1; bases <= 24; bases++) {
            Counted x = new Counted();
            for (int g = 0; g < bases; g++) {
                due("graph " + g, x.graph(2), g);
            }
            for (int g = bases; g < 24; g++) {
                due("view " + g, x.view(2, g - 1, 0, 0, 0), g);
            }
            due("the 24th is one", x.told(23, 0), 2);
            due("there is no 25th", x.told(24, 0), BAD);
            due("the 25th as a base one", x.graph(2), FULL);
            due("the 25th as a view", x.view(2, 0, 0, 0, 0), FULL);
            due("24", x.count(0), 24);
            due("still no 25th", x.told(24, 0), BAD);
            due("none below 0", x.told(-1, 0), BAD);
            due("all go", x.clear(), 24);
            due("from 0 on", x.graph(1), 0);
        }
    }

    private static void viewsAreOfElderOnes() {
        check.at("VIEWS of one or two elder ones");
        for (int kind = 1; kind <= 7; kind++) {
            Counted x = new Counted();
            x.graph(1);
            x.test(0, 0, 0, 0);
            due("of itself, kind " + kind, x.view(kind, 1, 0, 0, 0), BAD);
            due("of the one before it, kind " + kind, x.view(kind, 0, 0, 0, 0), 1);
            due("of -1, kind " + kind, x.view(kind, -1, 0, 0, 0), BAD);
            due("of a view, kind " + kind, x.view(kind, 1, 0, 0, 0), 2);
        }
        for (int kind = 3; kind <= 5; kind++) {
            Counted x = new Counted();
            x.graph(1);
            x.graph(1);
            due("and of itself, kind " + kind, x.view(kind, 0, 2, 0, 0), BAD);
            due("and of -1, kind " + kind, x.view(kind, 0, -1, 0, 0), BAD);
            due("and of the one before it, kind " + kind, x.view(kind, 0, 1, 0, 0), 2);
            due("b elder than a, kind " + kind, x.view(kind, 1, 0, 0, 0), 3);
            due("one twice, kind " + kind, x.view(kind, 3, 3, 0, 0), 4);
        }
    }

    private static void callsAre512AtMost() {
        check.at("at most 512 calls");
        Counted x = new Counted();
        x.graph(12);
        x.view(2, 0, 0, 0, 0);
        for (int k = 2; k < 510; k++) {
            due("set", x.set(0, NODE, k % 12, k), 1);
        }
        due("the 511th call", x.value(1, NODE, 509 % 12), 509);
        due("one is left", x.callsLeft(), 1);
        due("the 512th call", x.value(1, NODE, 508 % 12), 508);
        Counted y = new Counted();
        for (int k = 0; k < 256; k++) {
            due("graph", y.graph(1), 0);
            due("clear", y.clear(), 1);
        }
        due("none is left", y.callsLeft(), 0);
    }

    private static void baseHasOneToTwelveNodes() {
        check.at("BASE: 1 .. 12 NODES");
        Counted x = new Counted();
        due("0", x.graph(0), BAD);
        due("-1", x.graph(-1), BAD);
        due("13", x.graph(13), BAD);
        for (int n = 1; n <= 12; n++) {
            due("graph(" + n + ")", x.graph(n), n - 1);
            due("NODES", x.told(n - 1, 0), n);
            due("the first", x.set(n - 1, NODE, 0, 1), 1);
            due("the last", x.set(n - 1, NODE, n - 1, 1), 1);
            due("none behind it", x.set(n - 1, NODE, n, 1), BAD);
            due("none before it", x.set(n - 1, NODE, -1, 1), BAD);
        }
    }

    private static void valueIsZeroAtFirst() {
        check.at("VALUE 0 at first");
        Counted x = new Counted();
        x.graph(12);
        for (int i = 0; i < 12; i++) {
            due("node " + i, x.value(0, NODE, i), 0);
            x.set(0, NODE, i, 5);
        }
        x.clear();
        x.graph(12);
        for (int i = 0; i < 12; i++) {
            due("node " + i + " where one was before", x.value(0, NODE, i), 0);
        }
    }

    private static void baseHasThirtyArcsAtMost() {
        check.at("ARCS, 30 at most, as they come");
        Counted x = new Counted();
        x.graph(2);
        x.graph(2);
        due("none at first", x.told(0, 1), 0);
        due("no arc 0", x.end(0, 0, 0), BAD);
        for (int e = 0; e < 30; e++) {
            due("arc " + e, x.arc(0, e % 2, 0, e), e);
            due("none behind it", x.value(0, ARC, e + 1), BAD);
        }
        due("the 31st", x.arc(0, 0, 0, 1), FULL);
        due("30", x.told(0, 1), 30);
        due("no arc 30", x.value(0, ARC, 30), BAD);
        due("the first", x.value(0, ARC, 0), 0);
        due("the last", x.value(0, ARC, 29), 29);
        due("its FROM", x.end(0, 29, 0), 1);
        due("another graph has its own", x.arc(1, 0, 0, 1), 0);
    }

    private static void arcsMayBeOfOneNodeAndAlike() {
        check.at("FROM a node TO a node (also the same one; several alike may be)");
        Counted x = new Counted();
        x.graph(1);
        due("of the one node", x.arc(0, 0, 0, 7), 0);
        due("alike", x.arc(0, 0, 0, 7), 1);
        due("alike", x.arc(0, 0, 0, 7), 2);
        x.graph(12);
        due("from the first to the last", x.arc(1, 0, 11, 7), 0);
        due("from the last to the first", x.arc(1, 11, 0, 7), 1);
        due("from the last to itself", x.arc(1, 11, 11, 7), 2);
        due("FROM 0", x.end(1, 0, 0), 0);
        due("TO 11", x.end(1, 0, 1), 11);
        due("FROM 11", x.end(1, 1, 0), 11);
        due("TO 0", x.end(1, 1, 1), 0);
    }

    private static void valuesAreLongs() {
        check.at("a VALUE, a long");
        long[] values = {LEAST, LEAST + 1, -1, 0, 1, GREATEST - 1, GREATEST,
            1L + Integer.MAX_VALUE, Integer.MIN_VALUE - 1L};
        Counted x = new Counted();
        x.graph(1);
        x.view(2, 0, 0, 0, 0);
        for (int k = 0; k < values.length; k++) {
            due("set", x.set(0, NODE, 0, values[k]), 1);
            due("node", x.value(0, NODE, 0), values[k]);
            due("arc", x.arc(0, 0, 0, values[k]), k);
            due("arc's", x.value(0, ARC, k), values[k]);
            due("set", x.set(0, ARC, 0, values[k]), 1);
            due("arc 0's", x.value(0, ARC, 0), values[k]);
            due("a view's node", x.value(1, NODE, 0), values[k]);
            due("a view's arc", x.value(1, ARC, k), values[k]);
        }
    }

    private static void tablesAreFour() {
        check.at("TABLES of LABELS 0 .. 3");
        Counted x = Edges.nodes(1);
        due("-1", x.label(-1, 0, 1), -2);
        due("4", x.label(4, 0, 1), -2);
        for (int table = 0; table < 4; table++) {
            due("table " + table, x.label(table, 0, table), -1);
        }
        for (int table = 0; table < 4; table++) {
            due("each has its own", x.label(table, 0, table), table);
            due("gathered by it", x.view(7, 0, table, 0, 0), 1 + table);
            due("one node", x.told(1 + table, 0), 1);
        }
        due("gathered by -1", x.view(7, 0, -1, 0, 0), BAD);
        due("gathered by 4", x.view(7, 0, 4, 0, 0), BAD);
    }

    private static void labelsAreMinusOneToNine() {
        check.at("a LABEL -1 .. 9");
        Counted x = Edges.nodes(1);
        x.view(7, 0, 0, 0, 0);
        int was = -1;
        for (int v = -1; v <= 9; v++) {
            due("label " + v, x.label(0, 0, v), was);
            due("nodes", x.told(1, 0), v < 0 ? 0 : 1);
            was = v;
        }
        due("10", x.label(0, 0, 10), -2);
        due("-2", x.label(0, 0, -2), -2);
        due("it stays", x.label(0, 0, -1), 9);
        due("taken away", x.told(1, 0), 0);
    }

    private static void labelledNumbersAreZeroTo39() {
        check.at("for each of the numbers 0 .. 39");
        Counted x = new Counted();
        int large = Edges.largest(x);
        due("-1", x.label(0, -1, 1), -2);
        due("40", x.label(0, 40, 1), -2);
        due("0", x.label(0, 0, 4), -1);
        due("39", x.label(0, 39, 5), -1);
        due("0 again", x.label(0, 0, 4), 4);
        due("39 again", x.label(0, 39, 5), 5);
        due("38 is another", x.label(0, 38, -1), -1);
        int gathered = x.view(7, large, 0, 2, 0);
        due("both are labels of nodes", x.told(gathered, 0), 2);
        due("the first node", x.up(gathered, NODE, 0, 0), 0);
        due("the last node", x.up(gathered, NODE, 1, 0), 39);
    }

    private static void labelsAreMinusOneAtFirst() {
        check.at("(-1 at first)");
        Counted x = new Counted();
        for (int table = 0; table < 4; table++) {
            for (int i = 0; i < 40; i++) {
                due("label(" + table + ", " + i + ")", x.label(table, i, (table + i) % 10), -1);
            }
        }
        for (int table = 0; table < 4; table++) {
            for (int i = 0; i < 40; i++) {
                due("what it was", x.label(table, i, -1), (table + i) % 10);
            }
        }
        due("no graphs came by that", x.clear(), 0);
    }

    private static void testsAre20AtMost() {
        check.at("TESTS, 20 at most, numbered from 0 on");
        Counted x = Edges.nodes(19, 20);
        due("no test 0 yet", x.ask(0, NODE, 0, 0), BAD);
        for (int t = 0; t < 20; t++) {
            due("test " + t, x.test(0, t, 0, 0), t);
            due("none behind it", x.ask(0, NODE, 0, t + 1), BAD);
        }
        due("the 21st", x.test(0, 0, 0, 0), FULL);
        due("the 21st with parts", x.test(5, 0, 0, 19), FULL);
        due("20", x.count(1), 20);
        due("the last is one: 19 above 19", x.ask(0, NODE, 0, 19), 0);
        due("the last is one: 20 above 19", x.ask(0, NODE, 1, 19), 1);
        due("the one before it: 19 above 18", x.ask(0, NODE, 0, 18), 1);
        due("a filter by the last", x.view(1, 0, 19, 19, 0), 1);
        due("a filter by none", x.view(1, 0, 20, 0, 0), BAD);
        due("a filter by none", x.view(1, 0, 0, 20, 0), BAD);
        due("one of the two passes", x.told(1, 0), 1);
        x.clear();
        due("from 0 on", x.test(0, 0, 0, 0), 0);
    }

    private static void partsAreElderTests() {
        check.at("parts t, u, which are elder TESTS");
        for (int sort = 0; sort <= 8; sort++) {
            boolean hasT = sort >= 4;
            boolean hasU = sort == 5 || sort == 6;
            Counted x = new Counted();
            due("t of none, " + sort, x.test(sort, 0, 0, 0), hasT ? BAD : 0);
            x.clear();
            x.test(0, 0, 0, 0);
            x.test(0, 1, 0, 0);
            due("the last ones, " + sort, x.test(sort, 0, 1, 1), 2);
            due("the first ones, " + sort, x.test(sort, 0, 0, 0), 3);
            due("t itself, " + sort, x.test(sort, 0, 4, 0), hasT ? BAD : 4);
            int next = hasT ? 4 : 5;
            due("u itself, " + sort, x.test(sort, 0, 0, next), hasU ? BAD : next);
            next += hasU ? 0 : 1;
            due("t -1, " + sort, x.test(sort, 0, -1, 0), hasT ? BAD : next);
            next += hasT ? 0 : 1;
            due("u -1, " + sort, x.test(sort, 0, 0, -1), hasU ? BAD : next);
            next += hasU ? 0 : 1;
            due("no more came, " + sort, x.count(1), next);
        }
    }
}
