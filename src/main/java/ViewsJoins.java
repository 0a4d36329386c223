/**
 * Views of graphs, live or fixed, each of one or two elder graphs.
 * The words in the comments (FILTER, UP, STEP ..) are those of the document.
 */
public final class ViewsJoins {
    public static final int BAD = -1000001, FULL = -1000002, BROKEN = -1000003, NONE = -1000004;

    private static final int MOST_GRAPHS = 24;
    private static final int MOST_TESTS = 20;
    private static final int MOST_BASE_NODES = 12;
    private static final int MOST_BASE_ARCS = 30;
    private static final int MOST_NODES = 40;
    private static final int MOST_ARCS = 120;
    private static final int MOST_STEPS = 2000;
    private static final int MOST_FAILURES = 8;
    private static final int TABLES = 4;
    private static final int LABELS = 10;

    // label() answers the old LABEL, which may be -1: so its own BAD is another one.
    private static final int BAD_LABEL = -2;
    private static final int UNLABELLED = -1;
    private static final int ALL_PASS = -1;
    private static final int NO_ITEM = -1;

    private static final int BASE = 0;
    private static final int FILTER = 1;
    private static final int TURNED = 2;
    private static final int JOINED = 3;
    private static final int LESS = 4;
    private static final int PRODUCT = 5;
    private static final int LINES = 6;
    private static final int GATHERED = 7;

    private static final int NODE = 0;
    private static final int ARC = 1;

    private static final int UNBROKEN = 0;
    private static final int DIVISION = 1;
    private static final int INDEX = 2;
    private static final int LONG = 3;
    private static final int LARGE = 4;
    private static final int SPENT = 5;

    private static final int NO = 0;
    private static final int YES = 1;

    private final Graph[] graphs;
    private final Reckoner reckoner;
    private final Tests tests;
    private final int[][] labels;
    private int graphCount;
    // Grows with each change, so that a view reckoned at an older time is known to be stale.
    private int now;

    public ViewsJoins() {
        graphs = new Graph[MOST_GRAPHS];
        reckoner = new Reckoner();
        tests = reckoner.tests;
        labels = reckoner.labels;
        graphCount = 0;
        now = 1;
        removeLabels();
    }

    public int graph(int n) {
        if (n < 1 || n > MOST_BASE_NODES) {
            return BAD;
        }
        Graph made = nextGraph();
        if (made == null) {
            return FULL;
        }
        made.become(BASE, null, null);
        for (int i = 0; i < n; i++) {
            made.addNode(0L, NO_ITEM, NO_ITEM);
        }
        return graphCount - 1;
    }

    public int arc(int g, int from, int to, long v) {
        Graph base = known(g);
        if (base == null || base.kind != BASE || !base.nodes.has(from) || !base.nodes.has(to)) {
            return BAD;
        }
        if (base.arcs.size >= MOST_BASE_ARCS) {
            return FULL;
        }
        base.addArc(from, to, v, NO_ITEM, NO_ITEM);
        now++;
        return base.arcs.size - 1;
    }

    public int set(int g, int what, int i, long v) {
        Graph base = known(g);
        if (base == null || base.kind != BASE || !isOneOfTwo(what)) {
            return BAD;
        }
        Items items = base.items(what);
        if (!items.has(i)) {
            return BAD;
        }
        items.values[i] = v;
        now++;
        return 1;
    }

    public int label(int table, int i, int v) {
        if (!isTable(table) || i < 0 || i >= MOST_NODES || v < UNLABELLED || v >= LABELS) {
            return BAD_LABEL;
        }
        int old = labels[table][i];
        labels[table][i] = v;
        now++;
        return old;
    }

    public int test(int sort, long c, int t, int u) {
        if (!tests.fits(sort, t, u)) {
            return BAD;
        }
        if (tests.size >= MOST_TESTS) {
            return FULL;
        }
        tests.add(sort, c, t, u);
        return tests.size - 1;
    }

    public int view(int kind, int a, int b, int c, int d) {
        Graph first = known(a);
        if (first == null || !fits(kind, b, c, d)) {
            return BAD;
        }
        // A view of one graph has it twice: so a view's second graph is never missing.
        Graph second = isOfTwo(kind) ? known(b) : first;
        Graph made = nextGraph();
        if (made == null) {
            return FULL;
        }
        made.become(kind, first, second);
        made.choose(b, c, d);
        return graphCount - 1;
    }

    public int live(int g, boolean live) {
        Graph it = known(g);
        if (it == null || it.kind == BASE) {
            return BAD;
        }
        if (it.fixed != live) {
            return 0;
        }
        if (!live && isBroken(it)) {
            return BROKEN;
        }
        it.fixed = !live;
        now++;
        return 1;
    }

    public int told(int g, int what) {
        Graph it = known(g);
        if (it == null || what < 0 || what > 5) {
            return BAD;
        }
        if (what == 2) {
            return it.kind;
        }
        if (what == 4) {
            return it.fixed ? 0 : 1;
        }
        boolean broken = isBroken(it);
        if (what == 5) {
            return it.failure;
        }
        if (broken) {
            return BROKEN;
        }
        return what == 3 ? it.hiddenItems.size : it.items(what).size;
    }

    public int end(int g, int e, int which) {
        Graph it = known(g);
        if (it == null || !isOneOfTwo(which)) {
            return BAD;
        }
        if (isBroken(it)) {
            return BROKEN;
        }
        if (!it.arcs.has(e)) {
            return BAD;
        }
        return which == 0 ? it.from[e] : it.to[e];
    }

    public long value(int g, int what, int i) {
        Graph it = known(g);
        if (it == null || !isOneOfTwo(what)) {
            return BAD;
        }
        if (isBroken(it)) {
            return BROKEN;
        }
        Items items = it.items(what);
        return items.has(i) ? items.values[i] : BAD;
    }

    public int up(int g, int what, int i, int which) {
        Graph it = known(g);
        if (it == null || it.kind == BASE || !isOneOfTwo(what) || !isOneOfTwo(which)) {
            return BAD;
        }
        if (isBroken(it)) {
            return BROKEN;
        }
        Items items = it.items(what);
        if (!items.has(i)) {
            return BAD;
        }
        int source = items.sources(which)[i];
        return source < 0 ? NONE : source;
    }

    public int down(int g, int what, int i, int which) {
        Graph it = known(g);
        if (it == null || it.kind == BASE || !isOneOfTwo(what) || !isOneOfTwo(which)) {
            return BAD;
        }
        if (isBroken(it)) {
            return BROKEN;
        }
        int first = it.items(what).firstOf(i, which);
        return first < 0 ? NONE : first;
    }

    public int hidden(int g, int k, int what) {
        Graph it = known(g);
        if (it == null || it.kind != FILTER || what < 0 || what > 2) {
            return BAD;
        }
        if (isBroken(it)) {
            return BROKEN;
        }
        HiddenItems rows = it.hiddenItems;
        if (k < 0 || k >= rows.size) {
            return NONE;
        }
        if (what == 0) {
            return rows.whats[k];
        }
        return what == 1 ? rows.numbers[k] : rows.failures[k];
    }

    public int same(int a, int b) {
        Graph first = known(a);
        Graph second = known(b);
        if (first == null || second == null) {
            return BAD;
        }
        if (isBroken(first) || isBroken(second)) {
            return BROKEN;
        }
        return first.isLike(second) ? 1 : 0;
    }

    public int reach(int g, int s) {
        Graph it = known(g);
        if (it == null) {
            return BAD;
        }
        if (isBroken(it)) {
            return BROKEN;
        }
        return it.nodes.has(s) ? it.countReached(s) : BAD;
    }

    public int ask(int g, int what, int i, int t) {
        Graph it = known(g);
        if (it == null || !isOneOfTwo(what) || !tests.has(t)) {
            return BAD;
        }
        if (isBroken(it)) {
            return BROKEN;
        }
        if (!it.items(what).has(i)) {
            return BAD;
        }
        tests.begin();
        int said = tests.say(it, what, i, t, 0);
        return said < 0 ? said - 10 : said;
    }

    public int count(int what) {
        if (what == 0) {
            return graphCount;
        }
        if (what == 1) {
            return tests.size;
        }
        return what == 2 ? countFixed() : BAD;
    }

    public int clear() {
        int before = graphCount;
        graphCount = 0;
        tests.size = 0;
        removeLabels();
        now++;
        return before;
    }

    private void removeLabels() {
        for (int table = 0; table < TABLES; table++) {
            for (int i = 0; i < MOST_NODES; i++) {
                labels[table][i] = UNLABELLED;
            }
        }
    }

    private Graph known(int g) {
        return g >= 0 && g < graphCount && g < MOST_GRAPHS ? graphs[g] : null;
    }

    /** The next number's graph, null if there is no room: those from before a clear() are used again. */
    private Graph nextGraph() {
        if (graphCount >= MOST_GRAPHS) {
            return null;
        }
        if (graphs[graphCount] == null) {
            graphs[graphCount] = new Graph();
        }
        graphCount++;
        return graphs[graphCount - 1];
    }

    private int countFixed() {
        int fixed = 0;
        for (int g = 0; g < graphCount && g < MOST_GRAPHS; g++) {
            Graph it = graphs[g];
            if (it != null && it.fixed) {
                fixed++;
            }
        }
        return fixed;
    }

    private boolean fits(int kind, int b, int c, int d) {
        switch (kind) {
            case FILTER:
                return isTestOrAll(b) && isTestOrAll(c) && isOneOfTwo(d);
            case TURNED:
            case LINES:
                return true;
            case JOINED:
            case LESS:
                return known(b) != null;
            case PRODUCT:
                return known(b) != null && isOneOfThree(c);
            case GATHERED:
                return isTable(b) && isOneOfThree(c);
            default:
                return false;
        }
    }

    private boolean isTestOrAll(int t) {
        return t == ALL_PASS || tests.has(t);
    }

    private static boolean isOfTwo(int kind) {
        return kind == JOINED || kind == LESS || kind == PRODUCT;
    }

    private static boolean isTable(int table) {
        return table >= 0 && table < TABLES;
    }

    private static boolean isOneOfTwo(int choice) {
        return choice == 0 || choice == 1;
    }

    private static boolean isOneOfThree(int choice) {
        return choice >= 0 && choice <= 2;
    }

    /** What is told of a graph comes behind this question, so that nothing stale is told. */
    private boolean isBroken(Graph it) {
        refresh(it, 0);
        return it.failure != UNBROKEN;
    }

    /** Each view is of elder graphs, so a chain of them is shorter than there may be graphs. */
    private void refresh(Graph it, int depth) {
        if (it == null || depth >= MOST_GRAPHS || !it.isStale(now)) {
            return;
        }
        refresh(it.a, depth + 1);
        refresh(it.b, depth + 1);
        reckoner.reckon(it);
        it.reckonedAt = now;
    }

    /** The nodes, or the arcs, of one graph: their values, and from which items of a and of b they came. */
    private static final class Items {
        final long[] values;
        final int[] sourcesInA;
        final int[] sourcesInB;
        int size;

        Items(int most) {
            int room = Math.max(most, 0);
            values = new long[room];
            sourcesInA = new int[room];
            sourcesInB = new int[room];
            size = 0;
        }

        boolean has(int i) {
            return i >= 0 && i < size;
        }

        /** Whether there was room for one more. */
        boolean add(long v, int inA, int inB) {
            if (size >= values.length) {
                return false;
            }
            values[size] = v;
            sourcesInA[size] = inA;
            sourcesInB[size] = inB;
            size++;
            return true;
        }

        int[] sources(int which) {
            return which == 0 ? sourcesInA : sourcesInB;
        }

        int firstOf(int source, int which) {
            // An item without a source has a number below 0 there, which must not be found.
            if (source < 0) {
                return NO_ITEM;
            }
            int[] sources = sources(which);
            for (int i = 0; i < size; i++) {
                if (sources[i] == source) {
                    return i;
                }
            }
            return NO_ITEM;
        }
    }

    /** The items that a FILTER hides; the ninth FAILURE breaks it, so there are never more than eight. */
    private static final class HiddenItems {
        final int[] whats = new int[MOST_FAILURES];
        final int[] numbers = new int[MOST_FAILURES];
        final int[] failures = new int[MOST_FAILURES];
        int size = 0;

        void add(int what, int number, int failure) {
            if (size >= MOST_FAILURES) {
                return;
            }
            whats[size] = what;
            numbers[size] = number;
            failures[size] = failure;
            size++;
        }
    }

    /** A graph: what it is made of, and what it has, or had when it was last reckoned. */
    private static final class Graph {
        final Items nodes = new Items(MOST_NODES);
        final Items arcs = new Items(MOST_ARCS);
        final int[] from = new int[MOST_ARCS];
        final int[] to = new int[MOST_ARCS];
        final HiddenItems hiddenItems = new HiddenItems();
        int failure = UNBROKEN;
        int kind = BASE;
        Graph a = null;
        Graph b = null;
        // What the public view() got as b, c, d: what they mean depends on the kind.
        int choiceB = 0;
        int choiceC = 0;
        int choiceD = 0;
        boolean fixed = false;
        int reckonedAt = 0;

        void become(int newKind, Graph first, Graph second) {
            kind = newKind;
            a = first;
            b = second;
            fixed = false;
            reckonedAt = 0;
            empty();
        }

        void choose(int forB, int forC, int forD) {
            choiceB = forB;
            choiceC = forC;
            choiceD = forD;
        }

        void empty() {
            nodes.size = 0;
            arcs.size = 0;
            hiddenItems.size = 0;
            failure = UNBROKEN;
        }

        boolean isStale(int now) {
            return kind != BASE && !fixed && reckonedAt != now;
        }

        Items items(int what) {
            return what == NODE ? nodes : arcs;
        }

        void addNode(long v, int inA, int inB) {
            if (!nodes.add(v, inA, inB)) {
                failure = LARGE;
            }
        }

        void addArc(int tail, int head, long v, int inA, int inB) {
            int e = arcs.size;
            if (!arcs.add(v, inA, inB)) {
                failure = LARGE;
                return;
            }
            from[e] = tail;
            to[e] = head;
        }

        int countFrom(int node) {
            int found = 0;
            for (int e = 0; e < arcs.size; e++) {
                if (from[e] == node) {
                    found++;
                }
            }
            return found;
        }

        int countBeside(int arc) {
            int found = 0;
            for (int e = 0; e < arcs.size; e++) {
                if (from[e] == from[arc] && to[e] == to[arc]) {
                    found++;
                }
            }
            return found;
        }

        /** A bit for each node fits into a long: there are 40 at most. */
        int countReached(int start) {
            long reached = 1L << start;
            for (int round = 0; round < nodes.size; round++) {
                long before = reached;
                for (int e = 0; e < arcs.size; e++) {
                    if ((reached >>> from[e] & 1L) == 1L) {
                        reached |= 1L << to[e];
                    }
                }
                if (reached == before) {
                    break;
                }
            }
            return Long.bitCount(reached);
        }

        boolean isLike(Graph other) {
            if (nodes.size != other.nodes.size || arcs.size != other.arcs.size) {
                return false;
            }
            for (int i = 0; i < nodes.size; i++) {
                if (nodes.values[i] != other.nodes.values[i]) {
                    return false;
                }
            }
            for (int e = 0; e < arcs.size; e++) {
                if (from[e] != other.from[e] || to[e] != other.to[e]
                        || arcs.values[e] != other.arcs.values[e]) {
                    return false;
                }
            }
            return true;
        }
    }

    /** The TESTS, and how much of its STEPS and FAILURES the reckoning that asks them now has used. */
    private static final class Tests {
        static final int ABOVE = 0;
        static final int DIVIDES = 1;
        static final int BIT = 2;
        static final int MANY = 3;
        static final int NOT = 4;
        static final int AND = 5;
        static final int OR = 6;
        static final int MENDED = 7;
        static final int NEXT = 8;

        final int[] sorts = new int[MOST_TESTS];
        final long[] numbers = new long[MOST_TESTS];
        final int[] firstParts = new int[MOST_TESTS];
        final int[] secondParts = new int[MOST_TESTS];
        int size = 0;
        int steps = 0;
        int failures = 0;

        boolean has(int t) {
            return t >= 0 && t < size && t < MOST_TESTS;
        }

        boolean fits(int sort, int t, int u) {
            if (sort < ABOVE || sort > NEXT) {
                return false;
            }
            boolean needsFirst = sort >= NOT;
            boolean needsSecond = sort == AND || sort == OR;
            return (!needsFirst || has(t)) && (!needsSecond || has(u));
        }

        void add(int sort, long c, int t, int u) {
            if (size >= MOST_TESTS) {
                return;
            }
            sorts[size] = sort;
            numbers[size] = c;
            firstParts[size] = t;
            secondParts[size] = u;
            size++;
        }

        void begin() {
            steps = 0;
            failures = 0;
        }

        /** YES or NO, or the FAILURE below 0. Parts are elder tests, so the depth stays below their number. */
        private int say(Graph g, int what, int i, int t, int depth) {
            if (!has(t) || depth >= MOST_TESTS || !g.items(what).has(i)) {
                return -SPENT;
            }
            steps++;
            if (steps > MOST_STEPS) {
                return -SPENT;
            }
            return sorts[t] < NOT ? sayOfItem(g, what, i, t) : sayOfParts(g, what, i, t, depth);
        }

        private int sayOfItem(Graph g, int what, int i, int t) {
            long v = g.items(what).values[i];
            long c = numbers[t];
            switch (sorts[t]) {
                case ABOVE:
                    return answer(v > c);
                case DIVIDES:
                    return v == 0L ? begun(DIVISION) : answer(c % v == 0L);
                case BIT:
                    int w = (int) v;
                    return w < 0 || w > 3 ? begun(INDEX) : answer((c >>> w & 1L) == 1L);
                default:
                    return answer((what == NODE ? g.countFrom(i) : g.countBeside(i)) >= c);
            }
        }

        private int sayOfParts(Graph g, int what, int i, int t, int depth) {
            if (sorts[t] == NEXT) {
                return what == NODE ? sayOfSomeNext(g, i, firstParts[t], depth)
                        : say(g, NODE, g.to[i], firstParts[t], depth + 1);
            }
            int said = say(g, what, i, firstParts[t], depth + 1);
            switch (sorts[t]) {
                case NOT:
                    return said < 0 ? said : YES - said;
                case AND:
                    return said == YES ? say(g, what, i, secondParts[t], depth + 1) : said;
                case OR:
                    return said == NO ? say(g, what, i, secondParts[t], depth + 1) : said;
                default:
                    return said == -DIVISION || said == -INDEX ? NO : said;
            }
        }

        private int sayOfSomeNext(Graph g, int node, int t, int depth) {
            for (int e = 0; e < g.arcs.size; e++) {
                if (g.from[e] == node) {
                    int said = say(g, NODE, g.to[e], t, depth + 1);
                    if (said != NO) {
                        return said;
                    }
                }
            }
            return NO;
        }

        private static int answer(boolean yes) {
            return yes ? YES : NO;
        }

        private int begun(int failure) {
            failures++;
            return failures > MOST_FAILURES ? -SPENT : -failure;
        }
    }

    /** What came to each LABEL, or to each pair of them, of a GATHERED view. */
    private static final class Heaps {
        static final int SUM = 0;
        static final int GREATEST = 1;

        final long[] totals = new long[LABELS * LABELS];
        final int[] least = new int[LABELS * LABELS];
        boolean tooLong = false;

        void begin() {
            tooLong = false;
            for (int h = 0; h < least.length; h++) {
                least[h] = NO_ITEM;
            }
        }

        boolean hasAny(int heap) {
            return heap >= 0 && heap < least.length && least[heap] != NO_ITEM;
        }

        void put(int heap, int item, long v, int rule) {
            if (heap < 0 || heap >= least.length) {
                return;
            }
            if (least[heap] == NO_ITEM) {
                least[heap] = item;
                totals[heap] = rule == SUM || rule == GREATEST ? v : 1L;
            } else if (rule == SUM) {
                addTo(heap, v);
            } else if (rule == GREATEST) {
                totals[heap] = Math.max(totals[heap], v);
            } else {
                totals[heap]++;
            }
        }

        private void addTo(int heap, long v) {
            long sum = totals[heap] + v;
            // It did not fit if the sum's sign is neither that of the one nor that of the other.
            if (((totals[heap] ^ sum) & (v ^ sum)) < 0L) {
                tooLong = true;
            }
            totals[heap] = sum;
        }
    }

    /** Makes what a view has anew from what it is of; its rows are scratch, so that no reckoning makes any. */
    private static final class Reckoner {
        static final int BOTH = 0;
        static final int ONE = 1;
        static final int MODE_BREAKS = 1;

        final Tests tests = new Tests();
        final int[][] labels = new int[TABLES][MOST_NODES];
        private final Heaps heaps = new Heaps();
        // For each node of a the number that it has in the view; or so for each LABEL.
        private final int[] places = new int[MOST_NODES];
        // For each node a bit for each other one to which an arc goes from it.
        private final long[] linked = new long[MOST_NODES];

        void reckon(Graph view) {
            Graph a = view.a;
            Graph b = view.b;
            if (a == null || b == null) {
                return;
            }
            view.empty();
            view.failure = a.failure != UNBROKEN ? a.failure : b.failure;
            if (view.failure != UNBROKEN) {
                return;
            }
            switch (view.kind) {
                case FILTER:
                    tests.begin();
                    filterNodes(view, a);
                    filterArcs(view, a);
                    break;
                case TURNED:
                    turn(view, a);
                    break;
                case JOINED:
                    join(view, a, b);
                    break;
                case LESS:
                    copyNodes(view, a);
                    link(b);
                    copyUnlinked(view, a);
                    break;
                case PRODUCT:
                    multiply(view, a, b);
                    break;
                case LINES:
                    line(view, a);
                    break;
                case GATHERED:
                    gatherNodes(view, a);
                    gatherArcs(view, a);
                    break;
                default:
                    break;
            }
        }

        private void filterNodes(Graph view, Graph a) {
            int t = view.choiceB;
            for (int i = 0; i < a.nodes.size && view.failure == UNBROKEN; i++) {
                int said = t == ALL_PASS ? YES : tests.say(a, NODE, i, t, 0);
                places[i] = NO_ITEM;
                if (said == YES) {
                    places[i] = view.nodes.size;
                    view.addNode(a.nodes.values[i], i, NO_ITEM);
                } else if (said < 0) {
                    fail(view, NODE, i, -said);
                }
            }
        }

        private void filterArcs(Graph view, Graph a) {
            int t = view.choiceC;
            for (int e = 0; e < a.arcs.size && view.failure == UNBROKEN; e++) {
                int tail = places[a.from[e]];
                int head = places[a.to[e]];
                if (tail == NO_ITEM || head == NO_ITEM) {
                    continue;
                }
                int said = t == ALL_PASS ? YES : tests.say(a, ARC, e, t, 0);
                if (said == YES) {
                    view.addArc(tail, head, a.arcs.values[e], e, NO_ITEM);
                } else if (said < 0) {
                    fail(view, ARC, e, -said);
                }
            }
        }

        private static void fail(Graph view, int what, int number, int failure) {
            if (view.choiceD == MODE_BREAKS || failure == SPENT) {
                view.failure = failure;
            } else {
                view.hiddenItems.add(what, number, failure);
            }
        }

        private static void copyNodes(Graph view, Graph a) {
            for (int i = 0; i < a.nodes.size; i++) {
                view.addNode(a.nodes.values[i], i, NO_ITEM);
            }
        }

        private static void turn(Graph view, Graph a) {
            copyNodes(view, a);
            for (int e = 0; e < a.arcs.size; e++) {
                view.addArc(a.to[e], a.from[e], a.arcs.values[e], e, NO_ITEM);
            }
        }

        private void link(Graph g) {
            for (int i = 0; i < MOST_NODES; i++) {
                linked[i] = 0L;
            }
            for (int e = 0; e < g.arcs.size; e++) {
                linked[g.from[e]] |= 1L << g.to[e];
            }
        }

        private boolean isLinked(int tail, int head) {
            return (linked[tail] >>> head & 1L) == 1L;
        }

        private void copyUnlinked(Graph view, Graph a) {
            for (int e = 0; e < a.arcs.size; e++) {
                if (!isLinked(a.from[e], a.to[e])) {
                    view.addArc(a.from[e], a.to[e], a.arcs.values[e], e, NO_ITEM);
                }
            }
        }

        private void join(Graph view, Graph a, Graph b) {
            int most = Math.max(a.nodes.size, b.nodes.size);
            for (int i = 0; i < most; i++) {
                boolean inA = a.nodes.has(i);
                long v = inA ? a.nodes.values[i] : b.nodes.values[i];
                view.addNode(v, inA ? i : NO_ITEM, b.nodes.has(i) ? i : NO_ITEM);
            }
            for (int e = 0; e < a.arcs.size; e++) {
                view.addArc(a.from[e], a.to[e], a.arcs.values[e], e, NO_ITEM);
            }
            link(a);
            for (int f = 0; f < b.arcs.size; f++) {
                if (!isLinked(b.from[f], b.to[f])) {
                    view.addArc(b.from[f], b.to[f], b.arcs.values[f], NO_ITEM, f);
                }
            }
        }

        private static void multiply(Graph view, Graph a, Graph b) {
            int sort = view.choiceC;
            int apart = sort == BOTH ? 0 : a.arcs.size * b.nodes.size + a.nodes.size * b.arcs.size;
            int paired = sort == ONE ? 0 : a.arcs.size * b.arcs.size;
            // Known ahead: thousands of arcs need not be made to see that there are too many.
            if (a.nodes.size * b.nodes.size > MOST_NODES || apart + paired > MOST_ARCS) {
                view.failure = LARGE;
                return;
            }
            pairNodes(view, a, b);
            if (sort != BOTH) {
                moveInA(view, a, b);
                moveInB(view, a, b);
            }
            if (sort != ONE) {
                moveInBoth(view, a, b);
            }
        }

        private static void pairNodes(Graph view, Graph a, Graph b) {
            for (int x = 0; x < a.nodes.size; x++) {
                for (int y = 0; y < b.nodes.size; y++) {
                    view.addNode(a.nodes.values[x] + b.nodes.values[y], x, y);
                }
            }
        }

        private static void moveInA(Graph view, Graph a, Graph b) {
            int wide = b.nodes.size;
            for (int e = 0; e < a.arcs.size; e++) {
                for (int y = 0; y < wide; y++) {
                    view.addArc(a.from[e] * wide + y, a.to[e] * wide + y, a.arcs.values[e], e, NO_ITEM);
                }
            }
        }

        private static void moveInB(Graph view, Graph a, Graph b) {
            int wide = b.nodes.size;
            for (int x = 0; x < a.nodes.size; x++) {
                for (int f = 0; f < b.arcs.size; f++) {
                    view.addArc(x * wide + b.from[f], x * wide + b.to[f], b.arcs.values[f], NO_ITEM, f);
                }
            }
        }

        private static void moveInBoth(Graph view, Graph a, Graph b) {
            int wide = b.nodes.size;
            for (int e = 0; e < a.arcs.size; e++) {
                for (int f = 0; f < b.arcs.size; f++) {
                    view.addArc(a.from[e] * wide + b.from[f], a.to[e] * wide + b.to[f],
                            a.arcs.values[e] * b.arcs.values[f], e, f);
                }
            }
        }

        private static void line(Graph view, Graph a) {
            for (int e = 0; e < a.arcs.size; e++) {
                view.addNode(a.arcs.values[e], e, NO_ITEM);
            }
            for (int e = 0; e < a.arcs.size && view.failure == UNBROKEN; e++) {
                int between = a.to[e];
                for (int f = 0; f < a.arcs.size; f++) {
                    if (a.from[f] == between) {
                        view.addArc(e, f, a.nodes.values[between], between, NO_ITEM);
                    }
                }
            }
        }

        private void gatherNodes(Graph view, Graph a) {
            int[] table = labels[view.choiceB];
            heaps.begin();
            for (int i = 0; i < a.nodes.size; i++) {
                heaps.put(table[i], i, a.nodes.values[i], view.choiceC);
            }
            for (int label = 0; label < LABELS; label++) {
                places[label] = NO_ITEM;
                if (heaps.hasAny(label)) {
                    places[label] = view.nodes.size;
                    view.addNode(heaps.totals[label], heaps.least[label], NO_ITEM);
                }
            }
            breakIfTooLong(view);
        }

        private void gatherArcs(Graph view, Graph a) {
            int[] table = labels[view.choiceB];
            heaps.begin();
            for (int e = 0; e < a.arcs.size; e++) {
                int tail = table[a.from[e]];
                int head = table[a.to[e]];
                if (tail != UNLABELLED && head != UNLABELLED) {
                    heaps.put(tail * LABELS + head, e, a.arcs.values[e], view.choiceC);
                }
            }
            for (int heap = 0; heap < LABELS * LABELS; heap++) {
                if (heaps.hasAny(heap)) {
                    int tail = places[heap / LABELS];
                    int head = places[heap % LABELS];
                    view.addArc(tail, head, heaps.totals[heap], heaps.least[heap], NO_ITEM);
                }
            }
            breakIfTooLong(view);
        }

        private void breakIfTooLong(Graph view) {
            if (heaps.tooLong) {
                view.failure = LONG;
            }
        }
    }
}
