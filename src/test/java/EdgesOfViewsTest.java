/**
 * The boundary cases of the VIEWS by KINDS: nothing to take, as much as there may be and one more, what
 * wraps and what does not fit, what is hidden or broken, LIVE and FIXED, and where an UP is and is not.
 */
public final class EdgesOfViewsTest {
    private static final int BAD = Edges.BAD, BROKEN = Edges.BROKEN, NONE = Edges.NONE;
    private static final int DIVISION = Edges.DIVISION, INDEX = Edges.INDEX, LONG = Edges.LONG,
        LARGE = Edges.LARGE, SPENT = Edges.SPENT;
    private static final int NODE = Edges.NODE, ARC = Edges.ARC;
    private static final int FILTER = Edges.FILTER, TURNED = Edges.TURNED, JOINED = Edges.JOINED,
        LESS = Edges.LESS, PRODUCT = Edges.PRODUCT, LINES = Edges.LINES, GATHERED = Edges.GATHERED;
    private static final long LEAST = Edges.LEAST, GREATEST = Edges.GREATEST;

    private static final Check check = new Check();

    public static void main(String[] args) {
        filterByNoTests();
        filterThatNonePasses();
        filterKeepsArcsBetweenPassingNodes();
        filterHidesOrBreaks();
        filterOfTheLargest();
        turnedArcs();
        joinedNodes();
        joinedArcs();
        lessArcs();
        productNodes();
        productArcs();
        productWraps();
        linesOfArcs();
        gatheredLabels();
        gatheredArcs();
        gatheredSums();
        gatheredGreatestAndMany();
        ofNothing();
        largeNodes();
        largeArcsOfJoined();
        largeArcsOfProduct();
        largeLines();
        atMostOfTheOthers();
        brokenByWhatBrokeThat();
        liveAtFirst();
        fixedWhateverComes();
        upsOfEachKind();
        upsOfGatheredAreTheLeast();
        check.end();
    }

    private static void due(String call, long got, long want) {
        check.due(call, got, want);
    }

    private static void nodesAre(Counted x, int g, long... values) {
        due("NODES of " + g, x.told(g, 0), values.length);
        for (int i = 0; i < values.length; i++) {
            due("VALUE of NODE " + i + " of " + g, x.value(g, NODE, i), values[i]);
        }
        due("no NODE behind them", x.value(g, NODE, values.length), BAD);
    }

    private static void arcsAre(Counted x, int g, long[]... fromToValue) {
        due("ARCS of " + g, x.told(g, 1), fromToValue.length);
        for (int e = 0; e < fromToValue.length; e++) {
            due("FROM of ARC " + e + " of " + g, x.end(g, e, 0), fromToValue[e][0]);
            due("TO of ARC " + e + " of " + g, x.end(g, e, 1), fromToValue[e][1]);
            due("VALUE of ARC " + e + " of " + g, x.value(g, ARC, e), fromToValue[e][2]);
        }
        due("no ARC behind them", x.value(g, ARC, fromToValue.length), BAD);
    }

    private static long[] arc(long from, long to, long value) {
        return new long[] {from, to, value};
    }

    private static void upsAre(Counted x, int g, int what, int which, int... ups) {
        String call = "up of " + (what == NODE ? "NODE " : "ARC ");
        due(call + "-1", x.up(g, what, -1, which), BAD);
        for (int i = 0; i < ups.length; i++) {
            due(call + i + " of " + g + ", " + which, x.up(g, what, i, which), ups[i]);
        }
        due(call + "behind the last of " + g, x.up(g, what, ups.length, which), BAD);
    }

    private static void sizesAre(Counted x, int g, int nodes, int arcs) {
        due("broken by, " + g, x.told(g, 5), 0);
        due("NODES of " + g, x.told(g, 0), nodes);
        due("ARCS of " + g, x.told(g, 1), arcs);
    }

    private static void brokenBy(Counted x, int g, int failure) {
        due("broken by, " + g, x.told(g, 5), failure);
        due("so BROKEN, " + g, x.told(g, 0), BROKEN);
    }

    private static void filterByNoTests() {
        check.at("FILTER a, TESTS s, t (-1: all pass)");
        Counted x = Edges.nodes(0, 5, -1);
        x.arc(0, 0, 1, 0);
        x.arc(0, 2, 2, 9);
        x.test(1, 0, 0, 0);
        for (int mode = 0; mode <= 1; mode++) {
            int all = x.view(FILTER, 0, -1, -1, mode);
            due("all of it", x.same(0, all), 1);
            due("none hidden", x.told(all, 3), 0);
        }
        int nodes = x.view(FILTER, 0, 0, -1, 0);
        nodesAre(x, nodes, 5, -1);
        arcsAre(x, nodes, arc(1, 1, 9));
        int arcs = x.view(FILTER, 0, -1, 0, 0);
        nodesAre(x, arcs, 0, 5, -1);
        arcsAre(x, arcs, arc(2, 2, 9));
        due("the arc is hidden", x.hidden(arcs, 0, 0), 1);
        due("-2 is none, of nodes", x.view(FILTER, 0, -2, -1, 0), BAD);
        due("-2 is none, of arcs", x.view(FILTER, 0, -1, -2, 0), BAD);
    }

    private static void filterThatNonePasses() {
        check.at("FILTER: NODES of which s says yes; then ARCS of which t does");
        Counted x = Edges.nodes(1, 2);
        x.arc(0, 0, 1, 3);
        int no = Edges.no(x);
        int none = x.view(FILTER, 0, no, -1, 1);
        sizesAre(x, none, 0, 0);
        due("none hidden", x.told(none, 3), 0);
        due("no hidden one", x.hidden(none, 0, 0), NONE);
        due("no node", x.reach(none, 0), BAD);
        due("no arc", x.end(none, 0, 0), BAD);
        due("no up", x.up(none, NODE, 0, 0), BAD);
        due("no down", x.down(none, NODE, 0, 0), NONE);
        due("nothing to ask", x.ask(none, NODE, 0, no), BAD);
        int noArcs = x.view(FILTER, 0, -1, no, 1);
        sizesAre(x, noArcs, 2, 0);
        due("two of nothing", x.same(none, x.view(TURNED, none, 0, 0, 0)), 1);
    }

    private static void filterKeepsArcsBetweenPassingNodes() {
        check.at("FILTER: ARCS of a between such ones");
        Counted x = Edges.nodes(5, 1, 6, 1, 7);
        x.arc(0, 1, 0, 0);
        x.arc(0, 0, 1, 0);
        x.arc(0, 1, 3, 0);
        x.arc(0, 1, 1, 0);
        x.arc(0, 0, 4, 1);
        x.arc(0, 4, 2, 2);
        x.arc(0, 2, 2, 3);
        x.test(0, 1, 0, 0);
        x.test(1, 6, 0, 0);
        int hides = x.view(FILTER, 0, 0, 1, 0);
        nodesAre(x, hides, 5, 6, 7);
        arcsAre(x, hides, arc(0, 2, 1), arc(2, 1, 2), arc(1, 1, 3));
        due("the others are not asked, so not hidden", x.told(hides, 3), 0);
        due("nor do they break", x.told(x.view(FILTER, 0, 0, 1, 1), 5), 0);
    }

    private static void filterHidesOrBreaks() {
        check.at("FILTER: One of which a TEST FAILS is HIDDEN (mode 0), or the VIEW is BROKEN by that (mode 1)");
        Counted x = Edges.nodes(4, 1, 3);
        x.arc(0, 1, 2, 1);
        x.arc(0, 2, 1, 0);
        x.arc(0, 0, 0, 0);
        x.test(2, 15, 0, 0);
        x.test(1, 6, 0, 0);
        int hides = x.view(FILTER, 0, 0, 1, 0);
        int breaks = x.view(FILTER, 0, 0, 1, 1);
        nodesAre(x, hides, 1, 3);
        arcsAre(x, hides, arc(0, 1, 1));
        due("two", x.told(hides, 3), 2);
        int[][] rows = {{0, 0, INDEX}, {1, 1, DIVISION}};
        for (int k = 0; k < 2; k++) {
            for (int what = 0; what <= 2; what++) {
                due("hidden " + k + " " + what, x.hidden(hides, k, what), rows[k][what]);
            }
        }
        brokenBy(x, breaks, INDEX);
        x.set(0, NODE, 0, 0);
        due("by the first arc", x.told(breaks, 5), DIVISION);
        due("now the loop is asked, too", x.told(hides, 3), 2);
        x.set(0, ARC, 1, 6);
        brokenBy(x, breaks, DIVISION);
        x.set(0, ARC, 2, 6);
        due("no more", x.told(breaks, 5), 0);
        due("both alike now", x.same(hides, breaks), 1);
        due("mode -1", x.view(FILTER, 0, 0, 1, -1), BAD);
        due("mode 2", x.view(FILTER, 0, 0, 1, 2), BAD);
    }

    private static void filterOfTheLargest() {
        check.at("FILTER of 40 NODES and 120 ARCS");
        Counted x = new Counted();
        int large = Edges.largest(x);
        int yes = Edges.yes(x);
        int all = x.view(FILTER, large, yes, yes, 1);
        sizesAre(x, all, 40, 120);
        due("the last node", x.up(all, NODE, 39, 0), 39);
        due("the last arc", x.up(all, ARC, 119, 0), 119);
        due("none behind it", x.up(all, ARC, 120, 0), BAD);
        due("as it is", x.same(all, large), 1);
        due("all of ten in a ring", x.reach(all, 39), 10);
        x.test(0, 28, 0, 0);
        int few = x.view(FILTER, large, -1, 1, 0);
        sizesAre(x, few, 40, 4);
        due("a no hides none", x.told(few, 3), 0);
        upsAre(x, few, ARC, 0, 116, 117, 118, 119);
    }

    private static void turnedArcs() {
        check.at("TURNED a: each ARC goes the other way");
        Counted x = Edges.nodes(7, 8);
        int view = x.view(TURNED, 0, 0, 0, 0);
        nodesAre(x, view, 7, 8);
        arcsAre(x, view);
        x.arc(0, 0, 1, LEAST);
        x.arc(0, 1, 1, GREATEST);
        arcsAre(x, view, arc(1, 0, LEAST), arc(1, 1, GREATEST));
        arcsAre(x, x.view(TURNED, view, 0, 0, 0), arc(0, 1, LEAST), arc(1, 1, GREATEST));
    }

    private static void joinedNodes() {
        check.at("JOINED: NODES as many as the one with more has, VALUES of a, else of b");
        Counted x = Edges.nodes(1, 2);
        int more = Edges.base(x, 10, 20, 30);
        int asMany = Edges.base(x, 5, 6);
        nodesAre(x, x.view(JOINED, 0, more, 0, 0), 1, 2, 30);
        nodesAre(x, x.view(JOINED, more, 0, 0, 0), 10, 20, 30);
        nodesAre(x, x.view(JOINED, 0, asMany, 0, 0), 1, 2);
        nodesAre(x, x.view(JOINED, asMany, 0, 0, 0), 5, 6);
        nodesAre(x, x.view(JOINED, 0, 0, 0, 0), 1, 2);
        int none = Edges.empty(x);
        nodesAre(x, x.view(JOINED, none, 0, 0, 0), 1, 2);
        nodesAre(x, x.view(JOINED, 0, none, 0, 0), 1, 2);
        sizesAre(x, x.view(JOINED, none, none, 0, 0), 0, 0);
    }

    private static void joinedArcs() {
        check.at("JOINED: ARCS of a, then those of b with whose FROM and TO a has none");
        Counted x = Edges.nodes(0, 0);
        x.graph(3);
        x.arc(0, 0, 1, 1);
        x.arc(0, 0, 1, 2);
        x.arc(1, 0, 1, 3);
        x.arc(1, 1, 0, 4);
        x.arc(1, 1, 0, 5);
        x.arc(1, 0, 0, 6);
        x.arc(1, 2, 1, 7);
        x.arc(1, 0, 2, 8);
        arcsAre(x, x.view(JOINED, 0, 1, 0, 0), arc(0, 1, 1), arc(0, 1, 2), arc(1, 0, 4), arc(1, 0, 5),
            arc(0, 0, 6), arc(2, 1, 7), arc(0, 2, 8));
        arcsAre(x, x.view(JOINED, 1, 0, 0, 0), arc(0, 1, 3), arc(1, 0, 4), arc(1, 0, 5), arc(0, 0, 6),
            arc(2, 1, 7), arc(0, 2, 8));
        due("with itself", x.same(1, x.view(JOINED, 1, 1, 0, 0)), 1);
        int none = Edges.empty(x);
        arcsAre(x, x.view(JOINED, none, 0, 0, 0), arc(0, 1, 1), arc(0, 1, 2));
        arcsAre(x, x.view(JOINED, 0, none, 0, 0), arc(0, 1, 1), arc(0, 1, 2));
    }

    private static void lessArcs() {
        check.at("LESS a, b: NODES of a; its ARCS with whose FROM and TO b has none");
        Counted x = Edges.nodes(4, 5, 6);
        x.graph(2);
        x.arc(0, 0, 1, 1);
        x.arc(0, 0, 1, 2);
        x.arc(0, 1, 0, 3);
        x.arc(0, 2, 2, 4);
        x.arc(1, 0, 1, 9);
        int less = x.view(LESS, 0, 1, 0, 0);
        nodesAre(x, less, 4, 5, 6);
        arcsAre(x, less, arc(1, 0, 3), arc(2, 2, 4));
        int other = x.view(LESS, 1, 0, 0, 0);
        nodesAre(x, other, 0, 0);
        arcsAre(x, other);
        x.arc(1, 0, 0, 9);
        arcsAre(x, other, arc(0, 0, 9));
        sizesAre(x, x.view(LESS, 0, 0, 0, 0), 3, 0);
        int none = Edges.empty(x);
        due("less nothing", x.same(0, x.view(LESS, 0, none, 0, 0)), 1);
        sizesAre(x, x.view(LESS, none, 0, 0, 0), 0, 0);
    }

    private static void productNodes() {
        check.at("PRODUCT: NODES x times (NODES of b) and y");
        Counted x = Edges.nodes(10, 20, 30);
        int b = Edges.base(x, 1, 2);
        for (int sort = 0; sort <= 2; sort++) {
            int view = x.view(PRODUCT, 0, b, sort, 0);
            nodesAre(x, view, 11, 12, 21, 22, 31, 32);
            upsAre(x, view, NODE, 0, 0, 0, 1, 1, 2, 2);
            upsAre(x, view, NODE, 1, 0, 1, 0, 1, 0, 1);
        }
        nodesAre(x, x.view(PRODUCT, b, 0, 0, 0), 11, 21, 31, 12, 22, 32);
        int one = Edges.base(x, 5);
        nodesAre(x, x.view(PRODUCT, 0, one, 0, 0), 15, 25, 35);
        nodesAre(x, x.view(PRODUCT, one, one, 0, 0), 10);
        due("sort -1", x.view(PRODUCT, 0, b, -1, 0), BAD);
        due("sort 3", x.view(PRODUCT, 0, b, 3, 0), BAD);
    }

    private static void productArcs() {
        check.at("PRODUCT, ARCS: sort 0 BOTH; 1 ONE; 2: those of 1, then those of 0");
        Counted x = Edges.nodes(0, 0);
        x.graph(2);
        x.arc(0, 0, 1, 2);
        x.arc(0, 1, 1, 3);
        long[][] ofA = {arc(0, 2, 2), arc(1, 3, 2), arc(2, 2, 3), arc(3, 3, 3)};
        arcsAre(x, x.view(PRODUCT, 0, 1, 0, 0));
        arcsAre(x, x.view(PRODUCT, 0, 1, 1, 0), ofA);
        arcsAre(x, x.view(PRODUCT, 0, 1, 2, 0), ofA);
        x.arc(1, 1, 0, 5);
        arcsAre(x, 2, arc(1, 2, 10), arc(3, 2, 15));
        arcsAre(x, 3, ofA[0], ofA[1], ofA[2], ofA[3], arc(1, 0, 5), arc(3, 2, 5));
        arcsAre(x, 4, ofA[0], ofA[1], ofA[2], ofA[3], arc(1, 0, 5), arc(3, 2, 5), arc(1, 2, 10), arc(3, 2, 15));
        upsAre(x, 4, ARC, 0, 0, 0, 1, 1, NONE, NONE, 0, 1);
        upsAre(x, 4, ARC, 1, NONE, NONE, NONE, NONE, 0, 0, 0, 0);
        upsAre(x, 2, ARC, 0, 0, 1);
        upsAre(x, 2, ARC, 1, 0, 0);
        x.arc(1, 0, 0, 7);
        arcsAre(x, 2, arc(1, 2, 10), arc(0, 2, 14), arc(3, 2, 15), arc(2, 2, 21));
        upsAre(x, 2, ARC, 0, 0, 0, 1, 1);
        upsAre(x, 2, ARC, 1, 0, 1, 0, 1);
        arcsAre(x, 3, ofA[0], ofA[1], ofA[2], ofA[3], arc(1, 0, 5), arc(0, 0, 7), arc(3, 2, 5), arc(2, 2, 7));
    }

    private static void productWraps() {
        check.at("PRODUCT: VALUE the sum of both (it wraps); VALUE the product (it wraps)");
        Counted x = Edges.nodes(GREATEST, LEAST);
        int b = Edges.base(x, 0, 1, -1, GREATEST, LEAST);
        long[] ofA = {GREATEST, LEAST, 1L << 32};
        long[] ofB = {0, 1, -1, 2, LEAST, 1L << 32};
        for (long v : ofA) {
            x.arc(0, 0, 1, v);
        }
        for (long v : ofB) {
            x.arc(b, 0, 0, v);
        }
        int view = x.view(PRODUCT, 0, b, 0, 0);
        nodesAre(x, view, GREATEST, LEAST, GREATEST - 1, -2, -1, LEAST, LEAST + 1, GREATEST, -1, 0);
        long[] products = {0, GREATEST, -GREATEST, -2, LEAST, -(1L << 32),
            0, LEAST, LEAST, 0, 0, 0,
            0, 1L << 32, -(1L << 32), 1L << 33, 0, 0};
        due("ARCS", x.told(view, 1), 18);
        for (int e = 0; e < 18; e++) {
            due("product " + e, x.value(view, ARC, e), products[e]);
        }
    }

    private static void linesOfArcs() {
        check.at("LINES a: NODES are ARCS of a; ARCS: for each e, each f that goes from the NODE to which e goes");
        Counted x = Edges.nodes(7, 8, 9);
        int view = x.view(LINES, 0, 0, 0, 0);
        sizesAre(x, view, 0, 0);
        x.arc(0, 0, 1, GREATEST);
        nodesAre(x, view, GREATEST);
        arcsAre(x, view);
        x.arc(0, 2, 2, LEAST);
        nodesAre(x, view, GREATEST, LEAST);
        arcsAre(x, view, arc(1, 1, 9));
        x.arc(0, 1, 0, 3);
        arcsAre(x, view, arc(0, 2, 8), arc(1, 1, 9), arc(2, 0, 7));
        x.arc(0, 0, 1, 4);
        arcsAre(x, view, arc(0, 2, 8), arc(1, 1, 9), arc(2, 0, 7), arc(2, 3, 7), arc(3, 2, 8));
        upsAre(x, view, NODE, 0, 0, 1, 2, 3);
        upsAre(x, view, ARC, 0, 1, 2, 0, 0, 1);
        upsAre(x, view, NODE, 1, NONE, NONE, NONE, NONE);
        upsAre(x, view, ARC, 1, NONE, NONE, NONE, NONE, NONE);
    }

    private static void gatheredLabels() {
        check.at("GATHERED: NODES are the LABELS, rising, but -1, that some NODE of a has");
        Counted x = Edges.nodes(1, 2, 4, 8);
        int view = x.view(GATHERED, 0, 3, 0, 0);
        sizesAre(x, view, 0, 0);
        x.label(3, 4, 5);
        x.label(3, 39, 5);
        sizesAre(x, view, 0, 0);
        x.label(3, 3, 0);
        nodesAre(x, view, 8);
        x.label(3, 0, 9);
        nodesAre(x, view, 8, 1);
        x.label(3, 1, 8);
        nodesAre(x, view, 8, 2, 1);
        x.label(3, 2, 9);
        nodesAre(x, view, 8, 2, 5);
        x.label(3, 3, -1);
        nodesAre(x, view, 2, 5);
        x.label(2, 3, 1);
        nodesAre(x, view, 2, 5);
        Counted y = Edges.nodes(0, 1, 2, 3, 4, 5, 6, 7, 8, 9, 10, 11);
        for (int i = 0; i < 12; i++) {
            y.label(0, i, i < 10 ? 9 - i : 9);
        }
        nodesAre(y, y.view(GATHERED, 0, 0, 0, 0), 9, 8, 7, 6, 5, 4, 3, 2, 1, 21);
        due("rule -1", y.view(GATHERED, 0, 0, -1, 0), BAD);
        due("rule 3", y.view(GATHERED, 0, 0, 3, 0), BAD);
    }

    private static void gatheredArcs() {
        check.at("GATHERED: ARCS, by their FROM, then TO: one where some ARC of a goes from the one LABEL to the other");
        Counted x = new Counted();
        int left = 0;
        int joined = -1;
        // All 100 pairs of ten nodes, the last ones first, 25 to each base graph.
        for (int part = 0; part < 4; part++) {
            int g = x.graph(10);
            for (int k = 0; k < 25; k++) {
                x.arc(g, 9 - left / 10, 9 - left % 10, left);
                left++;
            }
            joined = joined < 0 ? g : x.view(JOINED, joined, g, 0, 0);
        }
        for (int i = 0; i < 10; i++) {
            x.label(0, i, i);
        }
        int all = x.view(GATHERED, joined, 0, 0, 0);
        sizesAre(x, all, 10, 100);
        for (int e = 0; e < 100; e++) {
            due("FROM " + e, x.end(all, e, 0), e / 10);
            due("TO " + e, x.end(all, e, 1), e % 10);
            due("VALUE " + e, x.value(all, ARC, e), 99 - e);
        }
        Counted y = Edges.nodes(0, 0, 0);
        y.label(0, 0, 3);
        y.label(0, 1, 3);
        y.arc(0, 0, 2, 1);
        y.arc(0, 2, 0, 1);
        y.arc(0, 2, 2, 1);
        int view = y.view(GATHERED, 0, 0, 0, 0);
        sizesAre(y, view, 1, 0);
        y.arc(0, 0, 1, 5);
        arcsAre(y, view, arc(0, 0, 5));
        y.arc(0, 1, 1, 6);
        arcsAre(y, view, arc(0, 0, 11));
        y.label(0, 2, 1);
        arcsAre(y, view, arc(0, 0, 1), arc(0, 1, 1), arc(1, 0, 1), arc(1, 1, 11));
    }

    /** Of nodes with one label, and of arcs between two: the sum, or LONG. */
    private static void sumIs(boolean fits, long sum, long... values) {
        Counted x = Edges.nodes(values);
        Counted y = new Counted();
        y.graph(2);
        for (int i = 0; i < values.length; i++) {
            x.label(0, i, 2);
            y.arc(0, 0, 1, values[i]);
        }
        y.label(0, 0, 5);
        y.label(0, 1, 4);
        x.view(GATHERED, 0, 0, 0, 0);
        y.view(GATHERED, 0, 0, 0, 0);
        if (fits) {
            nodesAre(x, 1, sum);
            arcsAre(y, 1, arc(1, 0, sum));
        } else {
            brokenBy(x, 1, LONG);
            brokenBy(y, 1, LONG);
        }
    }

    private static void gatheredSums() {
        check.at("GATHERED: rule 0 their sum from 0 on (LONG, if it does not fit at some time)");
        sumIs(true, GREATEST, GREATEST);
        sumIs(true, LEAST, LEAST);
        sumIs(true, GREATEST, GREATEST, 0);
        sumIs(true, GREATEST, GREATEST - 1, 1);
        sumIs(false, 0, GREATEST, 1);
        sumIs(false, 0, 1, GREATEST);
        sumIs(true, LEAST, LEAST + 1, -1);
        sumIs(false, 0, LEAST, -1);
        sumIs(false, 0, -1, LEAST);
        sumIs(false, 0, LEAST, LEAST);
        sumIs(false, 0, GREATEST, GREATEST);
        sumIs(false, 0, 0x5555555555555555L, 0x5555555555555555L);
        sumIs(true, -1, LEAST, GREATEST);
        sumIs(true, -1, GREATEST, LEAST);
        sumIs(true, GREATEST, GREATEST, -1, 1);
        sumIs(false, 0, GREATEST, 1, -1);
        sumIs(true, LEAST, LEAST, 1, -1);
        sumIs(false, 0, LEAST, -1, 1);
        sumIs(false, 0, GREATEST, 1, LEAST, LEAST);
        Counted x = Edges.nodes(GREATEST, GREATEST, GREATEST, LEAST);
        x.label(0, 0, 1);
        x.label(0, 1, 2);
        x.label(0, 3, 3);
        int view = x.view(GATHERED, 0, 0, 0, 0);
        nodesAre(x, view, GREATEST, GREATEST, LEAST);
        x.label(0, 2, 3);
        nodesAre(x, view, GREATEST, GREATEST, -1);
        x.label(0, 2, 2);
        brokenBy(x, view, LONG);
        x.label(0, 2, -1);
        nodesAre(x, view, GREATEST, GREATEST, LEAST);
        x.arc(0, 0, 1, GREATEST);
        x.arc(0, 1, 0, GREATEST);
        arcsAre(x, view, arc(0, 1, GREATEST), arc(1, 0, GREATEST));
        x.label(0, 1, 1);
        brokenBy(x, view, LONG);
        x.set(0, NODE, 1, 0);
        brokenBy(x, view, LONG);
        x.set(0, ARC, 1, LEAST);
        arcsAre(x, view, arc(0, 0, -1));
    }

    private static void gatheredGreatestAndMany() {
        check.at("GATHERED: rule 1 the greatest, 2 how many");
        Counted x = Edges.nodes(LEAST, LEAST, -1, GREATEST, GREATEST);
        for (int i = 0; i < 5; i++) {
            x.arc(0, 0, 0, LEAST);
        }
        x.label(0, 0, 0);
        int greatest = x.view(GATHERED, 0, 0, 1, 0);
        int many = x.view(GATHERED, 0, 0, 2, 0);
        long[] greatests = {LEAST, LEAST, -1, GREATEST, GREATEST};
        for (int i = 0; i < 5; i++) {
            x.label(0, i, 0);
            nodesAre(x, greatest, greatests[i]);
            nodesAre(x, many, i + 1);
        }
        arcsAre(x, greatest, arc(0, 0, LEAST));
        arcsAre(x, many, arc(0, 0, 5));
        x.set(0, ARC, 2, LEAST + 1);
        arcsAre(x, greatest, arc(0, 0, LEAST + 1));
        Counted y = new Counted();
        int large = Edges.largest(y);
        for (int i = 0; i < 40; i++) {
            y.label(1, i, 9);
        }
        int all = y.view(GATHERED, large, 1, 2, 0);
        nodesAre(y, all, 40);
        arcsAre(y, all, arc(0, 0, 120));
        y.label(1, 39, 8);
        nodesAre(y, all, 1, 39);
        arcsAre(y, all, arc(0, 1, 3), arc(1, 0, 3), arc(1, 1, 114));
    }

    private static void ofNothing() {
        check.at("a VIEW of a GRAPH without NODES");
        Counted x = new Counted();
        int none = Edges.empty(x);
        x.label(0, 0, 0);
        x.graph(3);
        x.arc(2, 0, 1, 1);
        for (int kind = 1; kind <= 7; kind++) {
            int c = kind == FILTER ? -1 : 0;
            int b = kind == GATHERED || kind == FILTER ? 0 : none;
            int view = x.view(kind, none, b, c, 0);
            sizesAre(x, view, 0, 0);
            due("none hidden", x.told(view, 3), 0);
            due("as none is", x.same(view, none), 1);
            due("fixed", x.live(view, false), 1);
        }
        for (int sort = 0; sort <= 2; sort++) {
            sizesAre(x, x.view(PRODUCT, none, 2, sort, 0), 0, 0);
            sizesAre(x, x.view(PRODUCT, 2, none, sort, 0), 0, 0);
        }
    }

    private static void largeNodes() {
        check.at("One that would have more than 40 NODES is BROKEN: LARGE");
        int[][] sizes = {{10, 4, 0}, {4, 10, 0}, {5, 8, 0}, {8, 5, 0}, {6, 6, 0}, {3, 12, 0}, {6, 7, LARGE},
            {7, 6, LARGE}, {4, 11, LARGE}, {11, 4, LARGE}, {12, 12, LARGE}};
        for (int[] size : sizes) {
            Counted x = new Counted();
            x.graph(size[0]);
            x.graph(size[1]);
            for (int sort = 0; sort <= 2; sort++) {
                int view = x.view(PRODUCT, 0, 1, sort, 0);
                due(size[0] + " by " + size[1], x.told(view, 5), size[2]);
                due("NODES", x.told(view, 0), size[2] == 0 ? size[0] * size[1] : BROKEN);
            }
        }
        Counted x = new Counted();
        int large = Edges.largest(x);
        int one = x.graph(1);
        int two = x.graph(2);
        sizesAre(x, x.view(PRODUCT, large, one, 1, 0), 40, 120);
        sizesAre(x, x.view(PRODUCT, one, large, 1, 0), 40, 120);
        brokenBy(x, x.view(PRODUCT, large, two, 0, 0), LARGE);
        brokenBy(x, x.view(PRODUCT, large, large, 0, 0), LARGE);
    }

    private static void largeArcsOfJoined() {
        check.at("One that would have more than 120 ARCS is BROKEN: LARGE; JOINED");
        Counted x = new Counted();
        int large = Edges.largest(x);
        int other = x.graph(5);
        int first = x.view(JOINED, large, other, 0, 0);
        int second = x.view(JOINED, other, large, 0, 0);
        sizesAre(x, first, 40, 120);
        sizesAre(x, second, 40, 120);
        x.arc(other, 0, 4, 1);
        sizesAre(x, first, 40, 120);
        // As second is of other, then what large has beside it: three of its arcs go from 0 to 4.
        sizesAre(x, second, 40, 118);
        x.arc(other, 4, 0, 1);
        brokenBy(x, first, LARGE);
        sizesAre(x, second, 40, 119);
        x.arc(other, 4, 0, 1);
        sizesAre(x, second, 40, 120);
        x.arc(other, 4, 0, 1);
        brokenBy(x, second, LARGE);
    }

    private static void largeArcsOfProduct() {
        check.at("One that would have more than 120 ARCS is BROKEN: LARGE; PRODUCT");
        Counted x = new Counted();
        int ten = Edges.loops(x, 10);
        int twelve = Edges.loops(x, 12);
        int eleven = Edges.loops(x, 11);
        int most = x.view(PRODUCT, ten, twelve, 0, 0);
        sizesAre(x, most, 1, 120);
        brokenBy(x, x.view(PRODUCT, eleven, eleven, 0, 0), LARGE);
        sizesAre(x, x.view(PRODUCT, ten, eleven, 1, 0), 1, 21);
        sizesAre(x, x.view(PRODUCT, ten, ten, 2, 0), 1, 120);
        brokenBy(x, x.view(PRODUCT, ten, eleven, 2, 0), LARGE);
        int one = Edges.loops(x, 1);
        sizesAre(x, x.view(PRODUCT, most, one, 0, 0), 1, 120);
        brokenBy(x, x.view(PRODUCT, most, one, 1, 0), LARGE);
        int six = Edges.loops(x, 6);
        int sixty = x.view(PRODUCT, ten, six, 0, 0);
        brokenBy(x, x.view(PRODUCT, one, sixty, 2, 0), LARGE);
        brokenBy(x, x.view(PRODUCT, sixty, one, 2, 0), LARGE);
        sizesAre(x, x.view(PRODUCT, one, sixty, 1, 0), 1, 61);
        int four = x.graph(4);
        int thirty = Edges.loops(x, 30);
        int left = x.view(PRODUCT, thirty, four, 1, 0);
        int right = x.view(PRODUCT, four, thirty, 1, 0);
        sizesAre(x, left, 4, 120);
        sizesAre(x, right, 4, 120);
        sizesAre(x, x.view(PRODUCT, thirty, four, 0, 0), 4, 0);
        x.arc(four, 0, 3, 1);
        brokenBy(x, left, LARGE);
        brokenBy(x, right, LARGE);
        due("so many at once that they are far too many", x.told(x.view(PRODUCT, thirty, thirty, 0, 0), 5), LARGE);
    }

    private static void largeLines() {
        check.at("One that would have more than 40 NODES or 120 ARCS is BROKEN: LARGE; LINES");
        Counted x = new Counted();
        x.graph(3);
        x.graph(3);
        Edges.arcs(x, 0, 0, 1, 30);
        Edges.arcs(x, 1, 0, 2, 10);
        int joined = x.view(JOINED, 0, 1, 0, 0);
        int lines = x.view(LINES, joined, 0, 0, 0);
        sizesAre(x, lines, 40, 0);
        due("the last", x.up(lines, NODE, 39, 0), 39);
        x.arc(1, 0, 2, 1);
        sizesAre(x, joined, 3, 41);
        brokenBy(x, lines, LARGE);
        Counted y = Edges.nodes(0, 5, 0);
        Edges.arcs(y, 0, 0, 1, 10);
        Edges.arcs(y, 0, 1, 2, 12);
        int between = y.view(LINES, 0, 0, 0, 0);
        sizesAre(y, between, 22, 120);
        due("the last goes from the tenth", y.end(between, 119, 0), 9);
        due("to the last", y.end(between, 119, 1), 21);
        due("by node 1", y.value(between, ARC, 119), 5);
        y.arc(0, 2, 2, 1);
        brokenBy(y, between, LARGE);
        Counted z = new Counted();
        z.graph(3);
        Edges.arcs(z, 0, 0, 1, 11);
        Edges.arcs(z, 0, 1, 2, 11);
        brokenBy(z, z.view(LINES, 0, 0, 0, 0), LARGE);
        int ten = Edges.loops(z, 10);
        int tens = z.view(LINES, ten, 0, 0, 0);
        sizesAre(z, tens, 10, 100);
        z.arc(ten, 0, 0, 1);
        brokenBy(z, tens, LARGE);
    }

    private static void atMostOfTheOthers() {
        check.at("40 NODES and 120 ARCS are not LARGE: TURNED, LESS, GATHERED");
        Counted x = new Counted();
        int large = Edges.largest(x);
        int turned = x.view(TURNED, large, 0, 0, 0);
        sizesAre(x, turned, 40, 120);
        due("the last", x.end(turned, 119, 1), x.end(large, 119, 0));
        int less = x.view(LESS, large, x.graph(1), 0, 0);
        sizesAre(x, less, 40, 120);
        due("as it is", x.same(less, large), 1);
        sizesAre(x, x.view(LESS, turned, large, 0, 0), 40, 120);
        sizesAre(x, x.view(LESS, large, large, 0, 0), 40, 0);
        sizesAre(x, x.view(GATHERED, large, 0, 0, 0), 0, 0);
    }

    /** Views broken by each FAILURE: DIVISION in number 1, INDEX in 2, LONG in 3, LARGE in 4, SPENT in 5. */
    private static Counted allBroken() {
        Counted x = Edges.nodes(0, 0, 0, 0, 0, 0, 0, 0, 0);
        Edges.arcs(x, 0, 0, 0, 1);
        x.set(0, ARC, 0, 4);
        x.arc(0, 1, 1, GREATEST);
        x.arc(0, 1, 1, GREATEST);
        x.label(0, 1, 0);
        x.test(1, 1, 0, 0);
        x.test(2, 1, 0, 0);
        x.view(FILTER, 0, 0, -1, 1);
        x.view(FILTER, 0, -1, 1, 1);
        x.view(GATHERED, 0, 0, 0, 0);
        x.view(PRODUCT, 0, 0, 0, 0);
        x.view(FILTER, 0, 0, -1, 0);
        return x;
    }

    private static void brokenByWhatBrokeThat() {
        check.at("so is a VIEW of a BROKEN one (by what broke that; of two by a's)");
        for (int failure = 1; failure <= 5; failure++) {
            Counted x = allBroken();
            brokenBy(x, failure, failure);
            int other = failure % 5 + 1;
            for (int kind = 1; kind <= 7; kind++) {
                int b = kind == FILTER ? -1 : kind == GATHERED ? 0 : other;
                int c = kind == FILTER ? -1 : 0;
                brokenBy(x, x.view(kind, failure, b, c, 0), failure);
            }
            for (int kind = 3; kind <= 5; kind++) {
                brokenBy(x, x.view(kind, 0, failure, 0, 0), failure);
                brokenBy(x, x.view(kind, other, failure, 0, 0), other);
                brokenBy(x, x.view(kind, failure, failure, 0, 0), failure);
            }
        }
        Counted x = allBroken();
        int chain = DIVISION;
        while (x.count(0) < 24) {
            chain = x.view(TURNED, chain, 0, 0, 0);
        }
        brokenBy(x, chain, DIVISION);
        for (int i = 0; i < 9; i++) {
            x.set(0, NODE, i, 1);
        }
        due("and no longer, if that is not", x.told(chain, 0), 9);
        due("nor the one that was SPENT", x.told(SPENT, 5), 0);
    }

    private static void liveAtFirst() {
        check.at("A VIEW is LIVE at first: what is told of it is reckoned of what it is of as that is now");
        Counted x = Edges.nodes(1, 2);
        x.test(0, 1, 0, 0);
        for (int kind = 1; kind <= 7; kind++) {
            int view = x.view(kind, 0, 0, kind == FILTER ? -1 : 0, 0);
            due("live, kind " + kind, x.told(view, 4), 1);
        }
        int filter = FILTER;
        nodesAre(x, filter, 2);
        x.set(0, NODE, 0, 5);
        nodesAre(x, filter, 5, 2);
        x.arc(0, 0, 1, 3);
        arcsAre(x, filter, arc(0, 1, 3));
        arcsAre(x, TURNED, arc(1, 0, 3));
        sizesAre(x, LINES, 1, 0);
        x.set(0, ARC, 0, 4);
        arcsAre(x, filter, arc(0, 1, 4));
        nodesAre(x, LINES, 4);
        sizesAre(x, GATHERED, 0, 0);
        x.label(0, 1, 6);
        nodesAre(x, GATHERED, 2);
        due("of a view that is made later", x.view(TURNED, GATHERED, 0, 0, 0), 8);
        x.label(0, 1, -1);
        sizesAre(x, 8, 0, 0);
        liveThroughAllOfThem();
    }

    /** Chains of 22 views, none asked before the last: each of the one before it as a, as b, as both. */
    private static void liveThroughAllOfThem() {
        for (int chain = 0; chain < 3; chain++) {
            Counted x = Edges.nodes(1, 2);
            x.graph(1);
            int last = 0;
            for (int g = 2; g < 24; g++) {
                last = x.view(JOINED, chain == 1 ? 1 : last, chain == 0 ? 1 : last, 0, 0);
            }
            due("the last there may be", last, 23);
            x.arc(0, 0, 1, 3);
            x.arc(0, 0, 1, 3);
            arcsAre(x, last, arc(0, 1, 3), arc(0, 1, 3));
            x.set(0, ARC, 1, 4);
            x.set(0, NODE, 1, 5);
            due("after a change", x.value(last, ARC, 1), 4);
            due("after a change", x.value(last, NODE, 1), 5);
        }
    }

    private static void fixedWhateverComes() {
        check.at("One that is FIXED stays as it was then, whatever comes, till it is LIVE again");
        Counted x = Edges.nodes(0, 1, 2);
        x.arc(0, 1, 2, 0);
        x.arc(0, 2, 1, 2);
        x.label(0, 1, 4);
        x.test(1, 2, 0, 0);
        int filter = x.view(FILTER, 0, 0, 0, 0);
        int turned = x.view(TURNED, filter, 0, 0, 0);
        int gathered = x.view(GATHERED, 0, 0, 2, 0);
        due("fixed", x.live(filter, false), 1);
        due("fixed", x.live(gathered, false), 1);
        for (int i = 0; i < 3; i++) {
            x.set(0, NODE, i, 1);
            x.label(0, i, 7);
        }
        x.set(0, ARC, 0, 1);
        x.arc(0, 0, 0, 1);
        nodesAre(x, filter, 1, 2);
        arcsAre(x, filter, arc(1, 0, 2));
        upsAre(x, filter, NODE, 0, 1, 2);
        upsAre(x, filter, ARC, 0, 1);
        due("hidden", x.told(filter, 3), 2);
        due("the arc hidden", x.hidden(filter, 1, 1), 0);
        due("down", x.down(filter, NODE, 2, 0), 1);
        due("what is of it stays, too", x.told(turned, 4), 1);
        arcsAre(x, turned, arc(0, 1, 2));
        nodesAre(x, gathered, 1);
        due("asked as it is", x.ask(filter, NODE, 1, 0), 1);
        due("live again", x.live(filter, true), 1);
        nodesAre(x, filter, 1, 1, 1);
        due("none hidden now", x.told(filter, 3), 0);
        arcsAre(x, turned, arc(2, 1, 1), arc(1, 2, 2), arc(0, 0, 1));
        due("live again", x.live(gathered, true), 1);
        nodesAre(x, gathered, 3);
        fixedThoughTheElderBreaks();
    }

    private static void fixedThoughTheElderBreaks() {
        Counted x = Edges.nodes(1, 2);
        x.test(1, 2, 0, 0);
        int breaks = x.view(FILTER, 0, 0, -1, 1);
        int turned = x.view(TURNED, breaks, 0, 0, 0);
        int joined = x.view(JOINED, turned, breaks, 0, 0);
        due("fixed", x.live(turned, false), 1);
        x.set(0, NODE, 0, 0);
        brokenBy(x, breaks, DIVISION);
        nodesAre(x, turned, 1, 2);
        brokenBy(x, joined, DIVISION);
        due("it was so", x.live(turned, false), 0);
        due("live again, so broken", x.live(turned, true), 1);
        brokenBy(x, turned, DIVISION);
        due("it can't be fixed", x.live(turned, false), BROKEN);
        x.set(0, NODE, 0, 2);
        nodesAre(x, turned, 2, 2);
        due("now it can", x.live(turned, false), 1);
        x.clear();
        due("nothing is fixed", x.count(2), 0);
    }

    private static void upsOfEachKind() {
        check.at("UP of an item of a VIEW: of a (which = 0), of b (1); NONE (of which 1 but in 3, 5)");
        Counted x = Edges.nodes(5, 0, 6);
        x.graph(4);
        x.arc(0, 0, 1, 1);
        x.arc(0, 2, 0, 2);
        x.arc(0, 2, 2, 3);
        x.arc(1, 2, 0, 4);
        x.arc(1, 3, 0, 5);
        x.test(0, 0, 0, 0);
        int filter = x.view(FILTER, 0, 0, -1, 0);
        int turned = x.view(TURNED, 0, 0, 0, 0);
        int less = x.view(LESS, 0, 1, 0, 0);
        int[][] ups = {{0, 2}, {1, 2}, {0, 1, 2}, {0, 1, 2}, {0, 1, 2}, {0, 2}};
        int[] views = {filter, turned, less};
        for (int k = 0; k < 3; k++) {
            for (int what = 0; what <= 1; what++) {
                int[] due = ups[2 * k + what];
                int[] none = new int[due.length];
                java.util.Arrays.fill(none, NONE);
                upsAre(x, views[k], what, 0, due);
                upsAre(x, views[k], what, 1, none);
            }
        }
        int joined = x.view(JOINED, 0, 1, 0, 0);
        upsAre(x, joined, NODE, 0, 0, 1, 2, NONE);
        upsAre(x, joined, NODE, 1, 0, 1, 2, 3);
        upsAre(x, joined, ARC, 0, 0, 1, 2, NONE);
        upsAre(x, joined, ARC, 1, NONE, NONE, NONE, 1);
        int other = x.view(JOINED, 1, 0, 0, 0);
        upsAre(x, other, NODE, 0, 0, 1, 2, 3);
        upsAre(x, other, NODE, 1, 0, 1, 2, NONE);
        upsAre(x, other, ARC, 0, 0, 1, NONE, NONE);
        upsAre(x, other, ARC, 1, NONE, NONE, 0, 2);
    }

    private static void upsOfGatheredAreTheLeast() {
        check.at("UP, GATHERED: the least that came to it");
        Counted x = Edges.nodes(9, 1, 5, 7, 3);
        for (int i = 0; i < 5; i++) {
            x.label(0, i, i == 0 ? -1 : i % 2);
        }
        x.arc(0, 0, 1, 1);
        x.arc(0, 1, 3, 2);
        x.arc(0, 4, 1, 3);
        x.arc(0, 3, 1, 9);
        x.arc(0, 2, 3, 8);
        for (int rule = 0; rule <= 2; rule++) {
            int view = x.view(GATHERED, 0, 0, rule, 0);
            upsAre(x, view, NODE, 0, 2, 1);
            upsAre(x, view, NODE, 1, NONE, NONE);
            upsAre(x, view, ARC, 0, 2, 1);
            upsAre(x, view, ARC, 1, NONE, NONE);
            due("down from the least", x.down(view, NODE, 1, 0), 1);
            due("not from another", x.down(view, NODE, 3, 0), NONE);
            due("nor from one without a label", x.down(view, NODE, 0, 0), NONE);
            due("arc from the least", x.down(view, ARC, 2, 0), 0);
            due("not from another arc", x.down(view, ARC, 4, 0), NONE);
        }
    }
}
