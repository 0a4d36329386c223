import java.util.ArrayList;
import java.util.HashMap;
import java.util.List;
import java.util.Map;
import java.util.TreeMap;

/**
 * The document said a second time, as plainly as may be: everything is reckoned afresh for
 * each call, what breaks is thrown, and nothing is kept but what a view is made of.
 */
final class Oracle {
    static final int BAD = -1000001, FULL = -1000002, BROKEN = -1000003, NONE = -1000004;
    private static final int DIVISION = 1, INDEX = 2, LONG = 3, LARGE = 4, SPENT = 5;

    /** from, to: of an arc. upA, upB: null where there is none. */
    record Item(long value, int from, int to, Integer upA, Integer upB) {
    }

    record Shape(List<Item> nodes, List<Item> arcs, List<int[]> hidden) {
        Shape() {
            this(new ArrayList<>(), new ArrayList<>(), new ArrayList<>());
        }

        List<Item> of(int what) {
            return what == 0 ? nodes : arcs;
        }

        void node(long value, Integer upA, Integer upB) {
            nodes.add(new Item(value, 0, 0, upA, upB));
        }

        void arc(int from, int to, long value, Integer upA, Integer upB) {
            arcs.add(new Item(value, from, to, upA, upB));
        }

        boolean links(int from, int to) {
            return arcs.stream().anyMatch(e -> e.from() == from && e.to() == to);
        }
    }

    record Test(int sort, long c, int t, int u) {
    }

    private static final class Failure extends RuntimeException {
        private static final long serialVersionUID = 1L;
        final int number;

        Failure(int number) {
            super(null, null, false, false);
            this.number = number;
        }
    }

    private static final class Made {
        int kind;
        int a;
        int b;
        int c;
        int d;
        Shape base;
        Shape fixed;
    }

    private final class Reckoning {
        int steps = 0;
        int failures = 0;

        boolean says(Shape g, int what, int i, int number) {
            if (++steps == 2001) {
                throw new Failure(SPENT);
            }
            Test test = tests.get(number);
            Item item = g.of(what).get(i);
            switch (test.sort()) {
                case 0:
                    return item.value() > test.c();
                case 1:
                    if (item.value() == 0) {
                        fail(DIVISION);
                    }
                    return test.c() % item.value() == 0;
                case 2:
                    int w = (int) item.value();
                    if (w != 0 && w != 1 && w != 2 && w != 3) {
                        fail(INDEX);
                    }
                    return (test.c() / (1 << w) & 1) == 1 && test.c() >= 0
                        || test.c() < 0 && (~test.c() / (1 << w) & 1) == 0;
                case 3:
                    long many = g.arcs().stream().filter(e -> what == 0 ? e.from() == i
                        : e.from() == item.from() && e.to() == item.to()).count();
                    return many >= test.c();
                case 4:
                    return !says(g, what, i, test.t());
                case 5:
                    return says(g, what, i, test.t()) && says(g, what, i, test.u());
                case 6:
                    return says(g, what, i, test.t()) || says(g, what, i, test.u());
                case 7:
                    try {
                        return says(g, what, i, test.t());
                    } catch (Failure f) {
                        if (f.number == SPENT) {
                            throw f;
                        }
                        return false;
                    }
                default:
                    if (what == 1) {
                        return says(g, 0, item.to(), test.t());
                    }
                    return g.arcs().stream().filter(e -> e.from() == i)
                        .anyMatch(e -> says(g, 0, e.to(), test.t()));
            }
        }

        private void fail(int number) {
            throw new Failure(++failures == 9 ? SPENT : number);
        }
    }

    private final List<Made> graphs = new ArrayList<>();
    private final List<Test> tests = new ArrayList<>();
    private final Map<Integer, Integer> labels = new HashMap<>();

    private int labelOf(int table, int i) {
        return labels.getOrDefault(table * 100 + i, -1);
    }

    private boolean isGraph(int g) {
        return g >= 0 && g < graphs.size();
    }

    private boolean isTest(int t) {
        return t >= 0 && t < tests.size();
    }

    private static boolean in(int low, int i, int high) {
        return low <= i && i <= high;
    }

    private Shape shape(int g) {
        return shape(g, new HashMap<>());
    }

    /** memo: a Shape, or the Failure that broke it. */
    private Shape shape(int g, Map<Integer, Object> memo) {
        Object known = memo.get(g);
        if (known == null) {
            try {
                known = reckon(graphs.get(g), memo);
            } catch (Failure f) {
                known = f;
            }
            memo.put(g, known);
        }
        if (known instanceof Failure f) {
            throw f;
        }
        return (Shape) known;
    }

    private Shape reckon(Made it, Map<Integer, Object> memo) {
        if (it.kind == 0) {
            return it.base;
        }
        if (it.fixed != null) {
            return it.fixed;
        }
        Shape a = shape(it.a, memo);
        Shape b = it.kind == 3 || it.kind == 4 || it.kind == 5 ? shape(it.b, memo) : null;
        Shape made = switch (it.kind) {
            case 1 -> filter(a, it.b, it.c, it.d);
            case 2 -> turned(a);
            case 3 -> joined(a, b);
            case 4 -> less(a, b);
            case 5 -> product(a, b, it.c);
            case 6 -> lines(a);
            default -> gathered(a, it.b, it.c);
        };
        if (made.nodes().size() > 40 || made.arcs().size() > 120) {
            throw new Failure(LARGE);
        }
        return made;
    }

    private Shape filter(Shape a, int s, int t, int mode) {
        Shape out = new Shape();
        Reckoning reckoning = new Reckoning();
        Map<Integer, Integer> kept = new HashMap<>();
        for (int i = 0; i < a.nodes().size(); i++) {
            if (passes(reckoning, a, 0, i, s, mode, out)) {
                kept.put(i, out.nodes().size());
                out.node(a.nodes().get(i).value(), i, null);
            }
        }
        for (int e = 0; e < a.arcs().size(); e++) {
            Item arc = a.arcs().get(e);
            Integer from = kept.get(arc.from());
            Integer to = kept.get(arc.to());
            if (from != null && to != null && passes(reckoning, a, 1, e, t, mode, out)) {
                out.arc(from, to, arc.value(), e, null);
            }
        }
        return out;
    }

    private static boolean passes(Reckoning reckoning, Shape a, int what, int i, int t, int mode, Shape out) {
        if (t == -1) {
            return true;
        }
        try {
            return reckoning.says(a, what, i, t);
        } catch (Failure f) {
            if (mode == 1 || f.number == SPENT) {
                throw f;
            }
            out.hidden().add(new int[] {what, i, f.number});
            return false;
        }
    }

    private static Shape turned(Shape a) {
        Shape out = new Shape();
        for (int i = 0; i < a.nodes().size(); i++) {
            out.node(a.nodes().get(i).value(), i, null);
        }
        for (int e = 0; e < a.arcs().size(); e++) {
            Item arc = a.arcs().get(e);
            out.arc(arc.to(), arc.from(), arc.value(), e, null);
        }
        return out;
    }

    private static Shape joined(Shape a, Shape b) {
        Shape out = new Shape();
        int inA = a.nodes().size();
        int inB = b.nodes().size();
        for (int i = 0; i < inA || i < inB; i++) {
            out.node((i < inA ? a : b).nodes().get(i).value(), i < inA ? i : null, i < inB ? i : null);
        }
        for (int e = 0; e < a.arcs().size(); e++) {
            Item arc = a.arcs().get(e);
            out.arc(arc.from(), arc.to(), arc.value(), e, null);
        }
        for (int f = 0; f < b.arcs().size(); f++) {
            Item arc = b.arcs().get(f);
            if (!a.links(arc.from(), arc.to())) {
                out.arc(arc.from(), arc.to(), arc.value(), null, f);
            }
        }
        return out;
    }

    private static Shape less(Shape a, Shape b) {
        Shape out = new Shape();
        for (int i = 0; i < a.nodes().size(); i++) {
            out.node(a.nodes().get(i).value(), i, null);
        }
        for (int e = 0; e < a.arcs().size(); e++) {
            Item arc = a.arcs().get(e);
            if (!b.links(arc.from(), arc.to())) {
                out.arc(arc.from(), arc.to(), arc.value(), e, null);
            }
        }
        return out;
    }

    private static Shape product(Shape a, Shape b, int sort) {
        Shape out = new Shape();
        int n = b.nodes().size();
        for (int x = 0; x < a.nodes().size(); x++) {
            for (int y = 0; y < n; y++) {
                out.node(a.nodes().get(x).value() + b.nodes().get(y).value(), x, y);
            }
        }
        if (sort == 1 || sort == 2) {
            for (int e = 0; e < a.arcs().size(); e++) {
                Item arc = a.arcs().get(e);
                for (int y = 0; y < n; y++) {
                    out.arc(arc.from() * n + y, arc.to() * n + y, arc.value(), e, null);
                }
            }
            for (int x = 0; x < a.nodes().size(); x++) {
                for (int f = 0; f < b.arcs().size(); f++) {
                    Item arc = b.arcs().get(f);
                    out.arc(x * n + arc.from(), x * n + arc.to(), arc.value(), null, f);
                }
            }
        }
        if (sort == 0 || sort == 2) {
            for (int e = 0; e < a.arcs().size(); e++) {
                Item p = a.arcs().get(e);
                for (int f = 0; f < b.arcs().size(); f++) {
                    Item q = b.arcs().get(f);
                    out.arc(p.from() * n + q.from(), p.to() * n + q.to(), p.value() * q.value(), e, f);
                }
            }
        }
        return out;
    }

    private static Shape lines(Shape a) {
        Shape out = new Shape();
        for (int e = 0; e < a.arcs().size(); e++) {
            Item p = a.arcs().get(e);
            out.node(p.value(), e, null);
            for (int f = 0; f < a.arcs().size(); f++) {
                if (a.arcs().get(f).from() == p.to()) {
                    out.arc(e, f, a.nodes().get(p.to()).value(), p.to(), null);
                }
            }
        }
        return out;
    }

    private Shape gathered(Shape a, int table, int rule) {
        Shape out = new Shape();
        TreeMap<Integer, List<Integer>> nodes = new TreeMap<>();
        for (int i = 0; i < a.nodes().size(); i++) {
            if (labelOf(table, i) >= 0) {
                nodes.computeIfAbsent(labelOf(table, i), key -> new ArrayList<>()).add(i);
            }
        }
        List<Integer> order = new ArrayList<>(nodes.keySet());
        for (List<Integer> came : nodes.values()) {
            out.node(fold(a.nodes(), came, rule), came.get(0), null);
        }
        for (int p = 0; p < order.size(); p++) {
            for (int q = 0; q < order.size(); q++) {
                List<Integer> came = new ArrayList<>();
                for (int e = 0; e < a.arcs().size(); e++) {
                    Item arc = a.arcs().get(e);
                    if (labelOf(table, arc.from()) == order.get(p) && labelOf(table, arc.to()) == order.get(q)) {
                        came.add(e);
                    }
                }
                if (!came.isEmpty()) {
                    out.arc(p, q, fold(a.arcs(), came, rule), came.get(0), null);
                }
            }
        }
        return out;
    }

    private static long fold(List<Item> items, List<Integer> came, int rule) {
        if (rule == 1) {
            return came.stream().mapToLong(i -> items.get(i).value()).max().getAsLong();
        }
        if (rule == 2) {
            return came.size();
        }
        long sum = 0;
        for (int i : came) {
            try {
                sum = Math.addExact(sum, items.get(i).value());
            } catch (ArithmeticException tooLong) {
                throw new Failure(LONG);
            }
        }
        return sum;
    }

    int graph(int n) {
        if (!in(1, n, 12)) {
            return BAD;
        }
        if (graphs.size() == 24) {
            return FULL;
        }
        Made made = new Made();
        made.base = new Shape();
        for (int i = 0; i < n; i++) {
            made.base.node(0, null, null);
        }
        graphs.add(made);
        return graphs.size() - 1;
    }

    int arc(int g, int from, int to, long v) {
        if (!isGraph(g) || graphs.get(g).kind != 0) {
            return BAD;
        }
        Shape base = graphs.get(g).base;
        int last = base.nodes().size() - 1;
        if (!in(0, from, last) || !in(0, to, last)) {
            return BAD;
        }
        if (base.arcs().size() == 30) {
            return FULL;
        }
        base.arc(from, to, v, null, null);
        return base.arcs().size() - 1;
    }

    int set(int g, int what, int i, long v) {
        if (!isGraph(g) || graphs.get(g).kind != 0 || !in(0, what, 1)) {
            return BAD;
        }
        List<Item> items = graphs.get(g).base.of(what);
        if (!in(0, i, items.size() - 1)) {
            return BAD;
        }
        Item old = items.get(i);
        items.set(i, new Item(v, old.from(), old.to(), null, null));
        return 1;
    }

    int label(int table, int i, int v) {
        if (!in(0, table, 3) || !in(0, i, 39) || !in(-1, v, 9)) {
            return -2;
        }
        int old = labelOf(table, i);
        labels.put(table * 100 + i, v);
        return old;
    }

    int test(int sort, long c, int t, int u) {
        boolean partsFit = switch (sort) {
            case 0, 1, 2, 3 -> true;
            case 4, 7, 8 -> isTest(t);
            case 5, 6 -> isTest(t) && isTest(u);
            default -> false;
        };
        if (!partsFit) {
            return BAD;
        }
        if (tests.size() == 20) {
            return FULL;
        }
        tests.add(new Test(sort, c, t, u));
        return tests.size() - 1;
    }

    int view(int kind, int a, int b, int c, int d) {
        boolean fits = isGraph(a) && switch (kind) {
            case 1 -> (b == -1 || isTest(b)) && (c == -1 || isTest(c)) && in(0, d, 1);
            case 2, 6 -> true;
            case 3, 4 -> isGraph(b);
            case 5 -> isGraph(b) && in(0, c, 2);
            case 7 -> in(0, b, 3) && in(0, c, 2);
            default -> false;
        };
        if (!fits) {
            return BAD;
        }
        if (graphs.size() == 24) {
            return FULL;
        }
        Made made = new Made();
        made.kind = kind;
        made.a = a;
        made.b = b;
        made.c = c;
        made.d = d;
        graphs.add(made);
        return graphs.size() - 1;
    }

    int live(int g, boolean live) {
        if (!isGraph(g) || graphs.get(g).kind == 0) {
            return BAD;
        }
        Made it = graphs.get(g);
        if (live == (it.fixed == null)) {
            return 0;
        }
        try {
            it.fixed = live ? null : copy(shape(g));
            return 1;
        } catch (Failure f) {
            return BROKEN;
        }
    }

    private static Shape copy(Shape of) {
        return new Shape(List.copyOf(of.nodes()), List.copyOf(of.arcs()), List.copyOf(of.hidden()));
    }

    int told(int g, int what) {
        if (!isGraph(g) || !in(0, what, 5)) {
            return BAD;
        }
        if (what == 2) {
            return graphs.get(g).kind;
        }
        if (what == 4) {
            return graphs.get(g).fixed == null ? 1 : 0;
        }
        try {
            Shape it = shape(g);
            return what == 0 ? it.nodes().size() : what == 1 ? it.arcs().size() : what == 3 ? it.hidden().size() : 0;
        } catch (Failure f) {
            return what == 5 ? f.number : BROKEN;
        }
    }

    int end(int g, int e, int which) {
        if (!isGraph(g) || !in(0, which, 1)) {
            return BAD;
        }
        try {
            List<Item> arcs = shape(g).arcs();
            return !in(0, e, arcs.size() - 1) ? BAD : which == 0 ? arcs.get(e).from() : arcs.get(e).to();
        } catch (Failure f) {
            return BROKEN;
        }
    }

    long value(int g, int what, int i) {
        if (!isGraph(g) || !in(0, what, 1)) {
            return BAD;
        }
        try {
            List<Item> items = shape(g).of(what);
            return in(0, i, items.size() - 1) ? items.get(i).value() : BAD;
        } catch (Failure f) {
            return BROKEN;
        }
    }

    private boolean ofView(int g, int what, int which) {
        return isGraph(g) && graphs.get(g).kind != 0 && in(0, what, 1) && in(0, which, 1);
    }

    int up(int g, int what, int i, int which) {
        if (!ofView(g, what, which)) {
            return BAD;
        }
        try {
            List<Item> items = shape(g).of(what);
            if (!in(0, i, items.size() - 1)) {
                return BAD;
            }
            Integer up = which == 0 ? items.get(i).upA() : items.get(i).upB();
            return up == null ? NONE : up;
        } catch (Failure f) {
            return BROKEN;
        }
    }

    int down(int g, int what, int i, int which) {
        if (!ofView(g, what, which)) {
            return BAD;
        }
        try {
            List<Item> items = shape(g).of(what);
            for (int k = 0; k < items.size(); k++) {
                Integer up = which == 0 ? items.get(k).upA() : items.get(k).upB();
                if (up != null && up == i) {
                    return k;
                }
            }
            return NONE;
        } catch (Failure f) {
            return BROKEN;
        }
    }

    int hidden(int g, int k, int what) {
        if (!isGraph(g) || graphs.get(g).kind != 1 || !in(0, what, 2)) {
            return BAD;
        }
        try {
            List<int[]> hidden = shape(g).hidden();
            return in(0, k, hidden.size() - 1) ? hidden.get(k)[what] : NONE;
        } catch (Failure f) {
            return BROKEN;
        }
    }

    int same(int a, int b) {
        if (!isGraph(a) || !isGraph(b)) {
            return BAD;
        }
        try {
            return plain(shape(a)).equals(plain(shape(b))) ? 1 : 0;
        } catch (Failure f) {
            return BROKEN;
        }
    }

    private static List<List<Item>> plain(Shape it) {
        List<Item> nodes = new ArrayList<>();
        List<Item> arcs = new ArrayList<>();
        it.nodes().forEach(i -> nodes.add(new Item(i.value(), 0, 0, null, null)));
        it.arcs().forEach(e -> arcs.add(new Item(e.value(), e.from(), e.to(), null, null)));
        return List.of(nodes, arcs);
    }

    int reach(int g, int s) {
        if (!isGraph(g)) {
            return BAD;
        }
        try {
            Shape it = shape(g);
            if (!in(0, s, it.nodes().size() - 1)) {
                return BAD;
            }
            List<Integer> come = new ArrayList<>(List.of(s));
            for (int k = 0; k < come.size(); k++) {
                for (Item arc : it.arcs()) {
                    if (arc.from() == come.get(k) && !come.contains(arc.to())) {
                        come.add(arc.to());
                    }
                }
            }
            return come.size();
        } catch (Failure f) {
            return BROKEN;
        }
    }

    int ask(int g, int what, int i, int t) {
        if (!isGraph(g) || !in(0, what, 1) || !isTest(t)) {
            return BAD;
        }
        Shape it;
        try {
            it = shape(g);
        } catch (Failure f) {
            return BROKEN;
        }
        if (!in(0, i, it.of(what).size() - 1)) {
            return BAD;
        }
        try {
            return new Reckoning().says(it, what, i, t) ? 1 : 0;
        } catch (Failure f) {
            return -10 - f.number;
        }
    }

    int count(int what) {
        return switch (what) {
            case 0 -> graphs.size();
            case 1 -> tests.size();
            case 2 -> (int) graphs.stream().filter(g -> g.fixed != null).count();
            default -> BAD;
        };
    }

    int clear() {
        int before = graphs.size();
        graphs.clear();
        tests.clear();
        labels.clear();
        return before;
    }
}
