/** What the tests of the document's boundary cases share: its numbers, and graphs and tests of a given size. */
final class Edges {
    static final int BAD = -1000001, FULL = -1000002, BROKEN = -1000003, NONE = -1000004;
    static final int DIVISION = 1, INDEX = 2, LONG = 3, LARGE = 4, SPENT = 5;
    static final int NODE = 0, ARC = 1;
    static final int FILTER = 1, TURNED = 2, JOINED = 3, LESS = 4, PRODUCT = 5, LINES = 6, GATHERED = 7;
    static final long LEAST = Long.MIN_VALUE, GREATEST = Long.MAX_VALUE;

    private Edges() {
    }

    /** Graph 0 with nodes of these values. */
    static Counted nodes(long... values) {
        Counted x = new Counted();
        base(x, values);
        return x;
    }

    /** One more base graph with nodes of these values. */
    static int base(Counted x, long... values) {
        int g = x.graph(values.length);
        for (int i = 0; i < values.length; i++) {
            if (values[i] != 0) {
                x.set(g, NODE, i, values[i]);
            }
        }
        return g;
    }

    /** So many more arcs alike. */
    static void arcs(Counted x, int g, int from, int to, int many) {
        for (int k = 0; k < many; k++) {
            x.arc(g, from, to, 1);
        }
    }

    /** A base graph of one node with so many arcs, each from it to itself. */
    static int loops(Counted x, int many) {
        int g = x.graph(1);
        arcs(x, g, 0, 0, many);
        return g;
    }

    /** A view with 40 nodes and 120 arcs: arc 4 e + y goes from node 4 (e % 10) + y to 4 ((e + 1) % 10) + y. */
    static int largest(Counted x) {
        int wide = x.graph(10);
        for (int e = 0; e < 30; e++) {
            x.arc(wide, e % 10, (e + 1) % 10, e);
        }
        int four = x.graph(4);
        return x.view(PRODUCT, wide, four, 1, 0);
    }

    /** A view with no nodes. */
    static int empty(Counted x) {
        return x.view(FILTER, x.graph(1), no(x), -1, 0);
    }

    /** A test of one step that says yes of every value but the least long. */
    static int yes(Counted x) {
        return x.test(0, LEAST, 0, 0);
    }

    /** A test of one step that says no. */
    static int no(Counted x) {
        return x.test(0, GREATEST, 0, 0);
    }

    /** A test that asks n tests in all and says yes where its leaf does: a 7 adds one, a 5 of the same twice doubles. */
    static int ofSteps(Counted x, int leaf, int n) {
        if (n == 1) {
            return leaf;
        }
        if (n % 2 == 0) {
            return x.test(7, 0, ofSteps(x, leaf, n - 1), 0);
        }
        int half = ofSteps(x, leaf, (n - 1) / 2);
        return x.test(5, 0, half, half);
    }
}
