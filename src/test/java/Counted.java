/** The class with its calls counted: nothing is promised beyond the 512th, so no test of an edge may go there. */
final class Counted {
    private static final int MOST_CALLS = 512;

    private final ViewsJoins it = new ViewsJoins();
    private int calls = 0;

    private ViewsJoins next() {
        calls++;
        if (calls > MOST_CALLS) {
            throw new IllegalStateException("this test makes more calls than the document promises answers for");
        }
        return it;
    }

    int callsLeft() {
        return MOST_CALLS - calls;
    }

    int graph(int n) {
        return next().graph(n);
    }

    int arc(int g, int from, int to, long v) {
        return next().arc(g, from, to, v);
    }

    int set(int g, int what, int i, long v) {
        return next().set(g, what, i, v);
    }

    int label(int table, int i, int v) {
        return next().label(table, i, v);
    }

    int test(int sort, long c, int t, int u) {
        return next().test(sort, c, t, u);
    }

    int view(int kind, int a, int b, int c, int d) {
        return next().view(kind, a, b, c, d);
    }

    int live(int g, boolean live) {
        return next().live(g, live);
    }

    int told(int g, int what) {
        return next().told(g, what);
    }

    int end(int g, int e, int which) {
        return next().end(g, e, which);
    }

    long value(int g, int what, int i) {
        return next().value(g, what, i);
    }

    int up(int g, int what, int i, int which) {
        return next().up(g, what, i, which);
    }

    int down(int g, int what, int i, int which) {
        return next().down(g, what, i, which);
    }

    int hidden(int g, int k, int what) {
        return next().hidden(g, k, what);
    }

    int same(int a, int b) {
        return next().same(a, b);
    }

    int reach(int g, int s) {
        return next().reach(g, s);
    }

    int ask(int g, int what, int i, int t) {
        return next().ask(g, what, i, t);
    }

    int count(int what) {
        return next().count(what);
    }

    int clear() {
        return next().clear();
    }
}
