/**
 * The boundary cases of the TESTS by sorts: where each turns from no to yes, where it FAILS, what is
 * asked at all; and the STEPS and FAILURES of one reckoning, of a FILTER and of an ask.
 */
public final class EdgesOfTestsTest {
    private static final int BAD = Edges.BAD;
    private static final int DIVISION = Edges.DIVISION, INDEX = Edges.INDEX, SPENT = Edges.SPENT;
    private static final int NODE = Edges.NODE, ARC = Edges.ARC, FILTER = Edges.FILTER;
    private static final long LEAST = Edges.LEAST, GREATEST = Edges.GREATEST;
    private static final long TURN = 1L << 32;

    private static final Check check = new Check();

    public static void main(String[] args) {
        sort0IsAbove();
        sort1Divides();
        sort1FailsByZeroAlone();
        sort2IsABit();
        sort2FailsOutsideOfZeroToThree();
        sort3CountsArcsFromANode();
        sort3CountsArcsBesideAnArc();
        sort3OfTheLargest();
        sort4IsNot();
        sort5AsksUOnlyAfterYes();
        sort6AsksUOnlyAfterNo();
        sort7SaysNoForTwoFailures();
        sort8OfANodeEndsWithTheFirstYes();
        sort8OfAnArcIsOfItsTo();
        partsAreAsDeepAsThereAreTests();
        stepsOfAnAsk();
        stepsOfAFilter();
        stepsOfPartsThatAreNotAsked();
        stepsOfSomeArcs();
        theLastStepMayFail();
        failuresOfAnAsk();
        failuresOfAFilter();
        failuresCountOnce();
        failuresThatA7Takes();
        eachReckoningBeginsAfresh();
        check.end();
    }

    private static void due(String call, long got, long want) {
        check.due(call, got, want);
    }

    /** Of a node, and of an arc, with this value. */
    private static void says(int sort, long c, long v, long want) {
        Counted x = Edges.nodes(v);
        x.arc(0, 0, 0, v);
        x.test(sort, c, 0, 0);
        due("sort " + sort + ", c " + c + ", of a node with " + v, x.ask(0, NODE, 0, 0), want);
        due("sort " + sort + ", c " + c + ", of an arc with " + v, x.ask(0, ARC, 0, 0), want);
    }

    private static void sort0IsAbove() {
        check.at("0 v is above c");
        long[] numbers = {LEAST + 1, -TURN, -1, 0, 1, TURN, GREATEST - 1};
        for (long c : numbers) {
            says(0, c, c - 1, 0);
            says(0, c, c, 0);
            says(0, c, c + 1, 1);
        }
        says(0, LEAST, LEAST, 0);
        says(0, LEAST, LEAST + 1, 1);
        says(0, LEAST, GREATEST, 1);
        says(0, GREATEST, GREATEST, 0);
        says(0, GREATEST, LEAST, 0);
    }

    private static void sort1Divides() {
        check.at("1 c % v is 0");
        says(1, 6, 3, 1);
        says(1, 6, -3, 1);
        says(1, -6, 3, 1);
        says(1, 6, 4, 0);
        says(1, -7, 2, 0);
        says(1, 7, -2, 0);
        says(1, 6, 6, 1);
        says(1, 6, 7, 0);
        says(1, 0, 7, 1);
        says(1, 0, LEAST, 1);
        says(1, LEAST, -1, 1);
        says(1, LEAST, LEAST, 1);
        says(1, LEAST, GREATEST, 0);
        says(1, GREATEST, LEAST, 0);
        says(1, GREATEST, GREATEST, 1);
        says(1, TURN, TURN, 1);
        says(1, 1, TURN, 0);
    }

    private static void sort1FailsByZeroAlone() {
        check.at("DIVISION, if v is 0");
        says(1, 0, 0, -10 - DIVISION);
        says(1, 5, 0, -10 - DIVISION);
        says(1, LEAST, 0, -10 - DIVISION);
        says(1, 5, 1, 1);
        says(1, 5, -1, 1);
        // As an int this would be 0: but v is a long.
        says(1, TURN, TURN, 1);
    }

    private static void sort2IsABit() {
        check.at("2 the bit w of c is 1");
        for (int w = 0; w <= 3; w++) {
            says(2, 1L << w, w, 1);
            says(2, ~(1L << w), w, 0);
            says(2, 0, w, 0);
            says(2, -1, w, 1);
            says(2, 16, w, 0);
            says(2, LEAST, w, 0);
            says(2, GREATEST, w, 1);
        }
    }

    private static void sort2FailsOutsideOfZeroToThree() {
        check.at("w being v as an int; INDEX, if w is not 0 .. 3");
        long[] turns = {0, TURN, -TURN, LEAST, 5 * TURN};
        for (long turn : turns) {
            says(2, 15, turn, 1);
            says(2, 15, turn + 3, 1);
            says(2, 15, turn + 4, -10 - INDEX);
            says(2, 15, turn == LEAST ? GREATEST : turn - 1, -10 - INDEX);
        }
        says(2, 15, Integer.MAX_VALUE, -10 - INDEX);
        says(2, 15, Integer.MIN_VALUE, -10 - INDEX);
        says(2, -1, 31, -10 - INDEX);
        says(2, -1, 64, -10 - INDEX);
    }

    private static void sort3CountsArcsFromANode() {
        check.at("3 of a NODE: c ARCS or more go from it");
        Counted x = Edges.nodes(1, 1, 1);
        Edges.arcs(x, 0, 0, 1, 2);
        Edges.arcs(x, 0, 0, 0, 1);
        Edges.arcs(x, 0, 1, 0, 1);
        long[] c = {LEAST, -1, 0, 1, 2, 3, 4, TURN, TURN + 1, GREATEST};
        int[] ofNode0 = {1, 1, 1, 1, 1, 1, 0, 0, 0, 0};
        int[] ofNode1 = {1, 1, 1, 1, 0, 0, 0, 0, 0, 0};
        int[] ofNode2 = {1, 1, 1, 0, 0, 0, 0, 0, 0, 0};
        for (int k = 0; k < c.length; k++) {
            x.test(3, c[k], 0, 0);
            due("three arcs, c " + c[k], x.ask(0, NODE, 0, k), ofNode0[k]);
            due("one arc, c " + c[k], x.ask(0, NODE, 1, k), ofNode1[k]);
            due("no arc, c " + c[k], x.ask(0, NODE, 2, k), ofNode2[k]);
        }
    }

    private static void sort3CountsArcsBesideAnArc() {
        check.at("of an ARC: c or more have its FROM and TO (itself, too)");
        Counted x = Edges.nodes(1, 1, 1);
        Edges.arcs(x, 0, 0, 1, 2);
        Edges.arcs(x, 0, 1, 0, 1);
        Edges.arcs(x, 0, 0, 0, 1);
        Edges.arcs(x, 0, 0, 2, 1);
        Edges.arcs(x, 0, 2, 1, 1);
        long[] c = {LEAST, -1, 0, 1, 2, 3, TURN, TURN + 1, GREATEST};
        int[] ofTwo = {1, 1, 1, 1, 1, 0, 0, 0, 0};
        int[] ofOne = {1, 1, 1, 1, 0, 0, 0, 0, 0};
        for (int k = 0; k < c.length; k++) {
            x.test(3, c[k], 0, 0);
            for (int e = 0; e < 6; e++) {
                due("arc " + e + ", c " + c[k], x.ask(0, ARC, e, k), e < 2 ? ofTwo[k] : ofOne[k]);
            }
        }
    }

    private static void sort3OfTheLargest() {
        check.at("3, with as many ARCS as a GRAPH may have");
        Counted x = new Counted();
        int a = Edges.loops(x, 10);
        int b = Edges.loops(x, 12);
        int both = x.view(Edges.PRODUCT, a, b, 0, 0);
        x.test(3, 120, 0, 0);
        x.test(3, 121, 0, 0);
        due("120 from a node", x.ask(both, NODE, 0, 0), 1);
        due("not 121", x.ask(both, NODE, 0, 1), 0);
        due("120 alike", x.ask(both, ARC, 119, 0), 1);
        due("not 121", x.ask(both, ARC, 0, 1), 0);
    }

    private static void sort4IsNot() {
        check.at("4 not t; FAILS of a part, too");
        Counted x = Edges.nodes(2, 0, 3);
        x.test(1, 4, 0, 0);
        x.test(4, 0, 0, 0);
        x.test(4, 0, 1, 0);
        due("not yes", x.ask(0, NODE, 0, 1), 0);
        due("not no", x.ask(0, NODE, 2, 1), 1);
        due("fails", x.ask(0, NODE, 1, 1), -11);
        due("not not yes", x.ask(0, NODE, 0, 2), 1);
        due("not not fails", x.ask(0, NODE, 1, 2), -11);
    }

    /** Of node 0 test 0 says yes, 1 no; 2 fails by DIVISION, 4 by INDEX (3 is the part of 4). */
    private static Counted fourSayings() {
        Counted x = Edges.nodes(0, 0, 4);
        x.arc(0, 0, 1, 0);
        x.arc(0, 0, 2, 0);
        Edges.yes(x);
        Edges.no(x);
        x.test(1, 1, 0, 0);
        x.test(2, 0, 0, 0);
        // It fails of node 2, with value 4, behind node 1, of which it says no.
        due("fails by INDEX", x.test(8, 0, 3, 0), 4);
        due("yes", x.ask(0, NODE, 0, 0), 1);
        due("no", x.ask(0, NODE, 0, 1), 0);
        due("DIVISION", x.ask(0, NODE, 0, 2), -11);
        due("INDEX", x.ask(0, NODE, 0, 4), -12);
        return x;
    }

    private static void pairs(int sort, int[][] rows) {
        Counted x = fourSayings();
        int next = 5;
        for (int[] row : rows) {
            x.test(sort, 0, row[0], row[1]);
            due("sort " + sort + " of " + row[0] + " and " + row[1], x.ask(0, NODE, 0, next), row[2]);
            next++;
        }
    }

    private static void sort5AsksUOnlyAfterYes() {
        check.at("5 t, and then u");
        pairs(5, new int[][] {{0, 0, 1}, {0, 1, 0}, {0, 2, -11}, {0, 4, -12}, {1, 0, 0}, {1, 1, 0}, {1, 2, 0},
            {2, 0, -11}, {2, 1, -11}, {2, 4, -11}, {4, 0, -12}, {4, 1, -12}, {4, 2, -12}});
    }

    private static void sort6AsksUOnlyAfterNo() {
        check.at("6 t, or else u (u is asked where t does not decide)");
        pairs(6, new int[][] {{0, 0, 1}, {0, 1, 1}, {0, 2, 1}, {0, 4, 1}, {1, 0, 1}, {1, 1, 0}, {1, 2, -11},
            {1, 4, -12}, {2, 0, -11}, {2, 1, -11}, {2, 4, -11}, {4, 0, -12}, {4, 2, -12}});
    }

    private static void sort7SaysNoForTwoFailures() {
        check.at("7 t, but no where it FAILS by DIVISION, INDEX");
        pairs(7, new int[][] {{0, 0, 1}, {1, 0, 0}, {2, 0, 0}, {4, 0, 0}});
        Counted x = Edges.nodes(1);
        int tooMany = Edges.ofSteps(x, Edges.yes(x), 2001);
        int seven = x.test(7, 0, tooMany, 0);
        due("not by SPENT", x.ask(0, NODE, 0, seven), -10 - SPENT);
        Counted y = fourSayings();
        y.test(4, 0, 2, 0);
        y.test(7, 0, 5, 0);
        y.test(4, 0, 6, 0);
        due("no of a not that fails", y.ask(0, NODE, 0, 6), 0);
        due("and not of that", y.ask(0, NODE, 0, 7), 1);
    }

    private static void sort8OfANodeEndsWithTheFirstYes() {
        check.at("8 of a NODE: for some ARC from it, by numbers (the first one ends it)");
        Counted x = Edges.nodes(1, 0, 2, 3);
        x.test(1, 4, 0, 0);
        x.test(8, 0, 0, 0);
        due("no arcs", x.ask(0, NODE, 0, 1), 0);
        x.arc(0, 1, 0, 2);
        due("no arcs from it", x.ask(0, NODE, 0, 1), 0);
        x.arc(0, 0, 3, 2);
        due("one that says no", x.ask(0, NODE, 0, 1), 0);
        x.arc(0, 0, 2, 2);
        due("the second says yes", x.ask(0, NODE, 0, 1), 1);
        x.arc(0, 0, 1, 2);
        due("the third would fail", x.ask(0, NODE, 0, 1), 1);
        x.set(0, NODE, 2, 3);
        due("now it is asked, and fails", x.ask(0, NODE, 0, 1), -11);
        x.set(0, NODE, 3, 0);
        x.set(0, NODE, 2, 2);
        due("the first fails ahead of a yes", x.ask(0, NODE, 0, 1), -11);
        Counted y = Edges.nodes(5);
        y.arc(0, 0, 0, 0);
        y.test(0, 4, 0, 0);
        y.test(8, 0, 0, 0);
        due("an arc to itself", y.ask(0, NODE, 0, 1), 1);
    }

    private static void sort8OfAnArcIsOfItsTo() {
        check.at("8 of an ARC: t of the NODE that it goes to");
        Counted x = Edges.nodes(0, 1, 3);
        x.arc(0, 0, 1, 3);
        x.arc(0, 1, 0, 1);
        x.arc(0, 1, 2, 1);
        x.test(1, 4, 0, 0);
        x.test(8, 0, 0, 0);
        x.test(8, 0, 1, 0);
        due("yes", x.ask(0, ARC, 0, 1), 1);
        due("fails", x.ask(0, ARC, 1, 1), -11);
        due("no", x.ask(0, ARC, 2, 1), 0);
        due("8 of 8: the arcs from that node", x.ask(0, ARC, 0, 2), -11);
        due("8 of 8: by node 0", x.ask(0, ARC, 1, 2), 1);
        due("8 of 8: none from node 2", x.ask(0, ARC, 2, 2), 0);
    }

    private static void partsAreAsDeepAsThereAreTests() {
        check.at("20 TESTS, each a part of the next");
        for (int sort = 4; sort <= 8; sort++) {
            Counted x = Edges.nodes(0);
            x.arc(0, 0, 0, 0);
            x.test(1, 1, 0, 0);
            for (int t = 1; t < 20; t++) {
                x.test(sort, 0, t - 1, t - 1);
            }
            int want = sort == 7 ? 0 : -11;
            due("of a node, sort " + sort, x.ask(0, NODE, 0, 19), want);
            due("of an arc, sort " + sort, x.ask(0, ARC, 0, 19), want);
            due("of a filter's node, sort " + sort, x.told(x.view(FILTER, 0, 19, -1, 0), 3), want < 0 ? 1 : 0);
        }
        for (int sort = 5; sort <= 6; sort++) {
            Counted x = Edges.nodes(0);
            x.arc(0, 0, 0, 0);
            int ahead = sort == 5 ? Edges.yes(x) : Edges.no(x);
            int last = x.test(1, 1, 0, 0);
            for (int t = 2; t < 20; t++) {
                last = x.test(sort, 0, ahead, last);
            }
            due("u of u, of a node, sort " + sort, x.ask(0, NODE, 0, last), -11);
            due("u of u, of an arc, sort " + sort, x.ask(0, ARC, 0, last), -11);
        }
    }

    private static void stepsOfAnAsk() {
        check.at("17 ask: SPENT as in a reckoning; with the 2001st STEP");
        for (int n = 1995; n <= 2005; n++) {
            Counted x = Edges.nodes(1);
            x.arc(0, 0, 0, 1);
            int t = Edges.ofSteps(x, Edges.yes(x), n);
            due("node, steps " + n, x.ask(0, NODE, 0, t), n <= 2000 ? 1 : -15);
            due("arc, steps " + n, x.ask(0, ARC, 0, t), n <= 2000 ? 1 : -15);
        }
        Counted x = Edges.nodes(1);
        int t = Edges.ofSteps(x, Edges.yes(x), 2000);
        int not = x.test(4, 0, t, 0);
        int ofNot = x.test(7, 0, not, 0);
        due("2000", x.ask(0, NODE, 0, t), 1);
        due("a 4 is a step too", x.ask(0, NODE, 0, not), -15);
        due("and again", x.ask(0, NODE, 0, ofNot), -15);
    }

    private static void stepsOfAFilter() {
        check.at("FILTER: with the 2001st STEP of one reckoning it is BROKEN: SPENT");
        for (int mode = 0; mode <= 1; mode++) {
            Counted x = Edges.nodes(1);
            int leaf = Edges.yes(x);
            int most = Edges.ofSteps(x, leaf, 2000);
            int more = x.test(7, 0, most, 0);
            due("2000 by its node", x.told(x.view(FILTER, 0, most, -1, mode), 5), 0);
            due("2001 by its node", x.told(x.view(FILTER, 0, more, -1, mode), 5), SPENT);
            int all = x.view(FILTER, 0, -1, most, mode);
            due("no arcs are asked", x.told(all, 5), 0);
            x.arc(0, 0, 0, 1);
            due("2000 by its arc: a node that passes by -1 is no step", x.told(all, 5), 0);
            due("2001 by its arc", x.told(x.view(FILTER, 0, -1, more, mode), 5), SPENT);
            due("2001 by both", x.told(x.view(FILTER, 0, most, leaf, mode), 5), SPENT);
            due("2000 by the node, the arc passes by -1", x.told(x.view(FILTER, 0, most, -1, mode), 5), 0);
            due("2001 by both, the other way", x.told(x.view(FILTER, 0, leaf, most, mode), 5), SPENT);
            x.arc(0, 0, 0, 1);
            due("4000 by two arcs", x.told(all, 5), SPENT);
        }
        Counted x = Edges.nodes(1, 1, 1, 1, 1, 1, 1, 1, 1, 1);
        int leaf = Edges.yes(x);
        int part = Edges.ofSteps(x, leaf, 199);
        int view = x.view(FILTER, 0, part, leaf, 0);
        Edges.arcs(x, 0, 0, 1, 10);
        due("10 nodes with 199 and 10 arcs", x.told(view, 5), 0);
        due("all came", x.told(view, 1), 10);
        x.arc(0, 9, 9, 1);
        due("11 arcs", x.told(view, 5), SPENT);
        x.set(0, NODE, 9, Edges.LEAST);
        due("a node that is left out leaves its arc unasked", x.told(view, 5), 0);
    }

    private static void stepsOfPartsThatAreNotAsked() {
        check.at("Each TEST that is asked, each part too, each time, is a STEP");
        Counted x = Edges.nodes(1);
        int leaf = Edges.yes(x);
        int none = Edges.no(x);
        int most = Edges.ofSteps(x, leaf, 2000);
        int andNot = x.test(5, 0, none, most);
        int orNot = x.test(6, 0, leaf, most);
        due("5 does not ask u", x.ask(0, NODE, 0, andNot), 0);
        due("6 does not ask u", x.ask(0, NODE, 0, orNot), 1);
        Counted y = Edges.nodes(1);
        int yes = Edges.yes(y);
        int rest = Edges.ofSteps(y, yes, 1998);
        int spent = y.test(5, 0, yes, rest);
        due("5 asks both: 2000", y.ask(0, NODE, 0, spent), 1);
        due("and one more", y.ask(0, NODE, 0, y.test(7, 0, spent, 0)), -15);
        for (int n = 1998; n <= 1999; n++) {
            Counted z = Edges.nodes(1);
            int no = Edges.no(z);
            int or = z.test(6, 0, no, Edges.ofSteps(z, Edges.yes(z), n));
            due("6 asks both, of which u has " + n, z.ask(0, NODE, 0, or), n == 1998 ? 1 : -15);
        }
    }

    private static void stepsOfSomeArcs() {
        check.at("an 8 asks t once for each ARC, till one says yes");
        Counted x = Edges.nodes(1, 1);
        int leaf = Edges.yes(x);
        int some = x.test(8, 0, Edges.no(x), 0);
        int t = x.test(5, 0, Edges.ofSteps(x, leaf, 1969), some);
        Edges.arcs(x, 0, 0, 1, 29);
        due("1 + 1969 + 1 + 29", x.ask(0, NODE, 0, t), 0);
        x.arc(0, 1, 1, 1);
        due("an arc from another node is not asked", x.ask(0, NODE, 0, t), 0);
        Counted y = Edges.nodes(1, 1);
        int yes = Edges.yes(y);
        int first = y.test(8, 0, yes, 0);
        int u = y.test(5, 0, Edges.ofSteps(y, yes, 1997), first);
        Edges.arcs(y, 0, 0, 1, 30);
        due("1 + 1997 + 1 + 1: the first yes ends it", y.ask(0, NODE, 0, u), 1);
        due("one more", y.ask(0, NODE, 0, y.test(7, 0, u, 0)), -15);
        Counted z = Edges.nodes(1, 1);
        int always = Edges.yes(z);
        int never = z.test(8, 0, Edges.no(z), 0);
        int v = z.test(5, 0, Edges.ofSteps(z, always, 1969), never);
        Edges.arcs(z, 0, 0, 1, 30);
        due("1 + 1969 + 1 + 30", z.ask(0, NODE, 0, v), -15);
        due("of an arc: 1 + 1969 + 1 + 1", z.ask(0, ARC, 0, v), 0);
    }

    private static void theLastStepMayFail() {
        check.at("the 2000th STEP may FAIL by DIVISION, the 2001st is SPENT");
        Counted x = Edges.nodes(0);
        int leaf = Edges.yes(x);
        int fails = x.test(1, 1, 0, 0);
        int before = Edges.ofSteps(x, leaf, 1998);
        int last = x.test(5, 0, before, fails);
        due("asked", x.ask(0, NODE, 0, last), -11);
        due("hidden", x.told(x.view(FILTER, 0, last, -1, 0), 3), 1);
        due("broken by it", x.told(x.view(FILTER, 0, last, -1, 1), 5), DIVISION);
        Counted y = Edges.nodes(0);
        int yes = Edges.yes(y);
        int failing = y.test(1, 1, 0, 0);
        int more = y.test(5, 0, Edges.ofSteps(y, yes, 1999), failing);
        due("asked", y.ask(0, NODE, 0, more), -15);
        due("mode 0", y.told(y.view(FILTER, 0, more, -1, 0), 5), SPENT);
        due("mode 1", y.told(y.view(FILTER, 0, more, -1, 1), 5), SPENT);
    }

    /** Of the node test 0 fails; 1 takes that for a no; 2, 3, 4 ask 1 twice, four times, eight times. */
    private static Counted eightTimes(int sort, long v) {
        Counted x = Edges.nodes(v);
        x.test(sort, 1, 0, 0);
        x.test(7, 0, 0, 0);
        int two = x.test(6, 0, 1, 1);
        int four = x.test(6, 0, two, two);
        x.test(6, 0, four, four);
        return x;
    }

    private static void failuresOfAnAsk() {
        check.at("17 ask: SPENT with the ninth FAILURE by DIVISION or INDEX");
        for (int sort = 1; sort <= 2; sort++) {
            Counted x = eightTimes(sort, sort == 1 ? 0 : 4);
            int eight = 4;
            due("eight", x.ask(0, NODE, 0, eight), 0);
            due("the ninth, mended", x.ask(0, NODE, 0, x.test(6, 0, eight, 1)), -15);
            due("the ninth, not mended", x.ask(0, NODE, 0, x.test(6, 0, eight, 0)), -15);
            due("the ninth, mended twice", x.ask(0, NODE, 0, x.test(7, 0, 5, 0)), -15);
            int three = x.test(6, 0, 2, 1);
            int seven = x.test(6, 0, 3, three);
            due("seven", x.ask(0, NODE, 0, seven), 0);
            due("the eighth, not mended", x.ask(0, NODE, 0, x.test(6, 0, seven, 0)), -10 - sort);
            due("eight afresh", x.ask(0, NODE, 0, eight), 0);
        }
    }

    private static void failuresOfAFilter() {
        check.at("FILTER: with the ninth FAILURE by DIVISION or INDEX it is BROKEN: SPENT");
        Counted x = Edges.nodes(0, 0, 0, 0, 0, 0, 0, 0, 1, 1);
        x.test(1, 4, 0, 0);
        int hiding = x.view(FILTER, 0, 0, 0, 0);
        due("eight nodes", x.told(hiding, 3), 8);
        due("the eighth", x.hidden(hiding, 7, 1), 7);
        due("no ninth", x.hidden(hiding, 8, 1), Edges.NONE);
        x.set(0, NODE, 8, 0);
        due("nine nodes", x.told(hiding, 5), SPENT);
        x.set(0, NODE, 8, 1);
        x.arc(0, 8, 9, 0);
        due("eight nodes and an arc", x.told(hiding, 5), SPENT);
        x.set(0, NODE, 0, 1);
        due("seven nodes and an arc", x.told(hiding, 3), 8);
        due("the eighth is the arc", x.hidden(hiding, 7, 0), 1);
        x.arc(0, 8, 9, 0);
        due("seven nodes and two arcs", x.told(hiding, 5), SPENT);
        Counted y = Edges.nodes(1, 0, 5, 0, 5, 0, 5, 0, 5, 1);
        y.test(1, 1, 0, 0);
        y.test(2, 2, 0, 0);
        y.test(0, 1, 0, 0);
        y.test(5, 0, 2, 1);
        y.test(4, 0, 2, 0);
        y.test(5, 0, 4, 0);
        // Above 1: by INDEX; else by DIVISION.
        y.test(6, 0, 3, 5);
        int mixed = y.view(FILTER, 0, 6, -1, 0);
        due("four by each", y.told(mixed, 3), 8);
        for (int k = 0; k < 8; k++) {
            due("the " + k + "th", y.hidden(mixed, k, 2), k % 2 == 0 ? DIVISION : INDEX);
        }
        y.set(0, NODE, 9, 5);
        due("five and four", y.told(mixed, 5), SPENT);
    }

    private static void failuresCountOnce() {
        check.at("(each counts once, where it begins: at 1, 2)");
        Counted x = Edges.nodes(0, 0, 0, 0, 0, 0, 0, 0);
        x.test(1, 4, 0, 0);
        x.test(4, 0, 0, 0);
        x.test(5, 0, 1, 1);
        x.test(6, 0, 2, 2);
        x.test(4, 0, 3, 0);
        due("eight, each through four parts", x.told(x.view(FILTER, 0, 4, -1, 0), 3), 8);
        x.test(7, 0, 4, 0);
        due("and a 7", x.told(x.view(FILTER, 0, 5, -1, 0), 5), 0);
        Counted y = Edges.nodes(0, 0, 0, 0, 0, 0, 0, 0);
        for (int i = 0; i < 8; i++) {
            y.arc(0, i, (i + 1) % 8, 1);
        }
        y.test(1, 4, 0, 0);
        y.test(8, 0, 0, 0);
        y.test(8, 0, 1, 0);
        int far = y.view(FILTER, 0, 2, -1, 0);
        due("eight, each through an 8 of an 8", y.told(far, 3), 8);
        due("the node that was asked is hidden", y.hidden(far, 0, 1), 0);
    }

    private static void failuresThatA7Takes() {
        check.at("(also where a 7 says no then)");
        Counted x = Edges.nodes(0, 0, 0, 0, 0, 0, 0, 0, 1);
        x.test(1, 4, 0, 0);
        x.test(7, 0, 0, 0);
        int mode0 = x.view(FILTER, 0, 1, -1, 0);
        int mode1 = x.view(FILTER, 0, 1, -1, 1);
        due("eight, mode 0", x.told(mode0, 5), 0);
        due("eight, mode 1", x.told(mode1, 5), 0);
        due("none is hidden", x.told(mode0, 3), 0);
        x.set(0, NODE, 8, 0);
        due("nine, mode 0", x.told(mode0, 5), SPENT);
        due("nine, mode 1", x.told(mode1, 5), SPENT);
        Counted y = Edges.nodes(0, 0, 0, 0, 0, 0, 0, 1, 1);
        y.arc(0, 7, 8, 0);
        y.test(1, 4, 0, 0);
        y.test(7, 0, 0, 0);
        int breaks = y.view(FILTER, 0, 1, 0, 1);
        due("seven mended, the eighth breaks by itself", y.told(breaks, 5), DIVISION);
        y.set(0, NODE, 0, 1);
        y.arc(0, 0, 7, 1);
        due("six mended", y.told(breaks, 5), DIVISION);
        Counted z = Edges.nodes(0, 0, 0, 0, 0, 0, 0, 0, 1);
        z.arc(0, 8, 8, 0);
        z.test(1, 4, 0, 0);
        z.test(7, 0, 0, 0);
        due("eight mended, the ninth breaks by SPENT", z.told(z.view(FILTER, 0, 1, 0, 1), 5), SPENT);
        due("and in mode 0", z.told(z.view(FILTER, 0, 1, 0, 0), 5), SPENT);
    }

    private static void eachReckoningBeginsAfresh() {
        check.at("of one reckoning");
        Counted x = Edges.nodes(1);
        int most = Edges.ofSteps(x, Edges.yes(x), 2000);
        int first = x.view(FILTER, 0, most, -1, 1);
        int second = x.view(FILTER, first, most, -1, 1);
        int third = x.view(Edges.JOINED, first, second, 0, 0);
        int fourth = x.view(FILTER, third, most, -1, 1);
        due("a filter of a filter, each with 2000", x.told(fourth, 5), 0);
        due("asked again", x.told(fourth, 0), 1);
        for (int k = 2; k < 6; k++) {
            x.set(0, NODE, 0, k);
            due("after a change", x.value(fourth, NODE, 0), k);
            due("an ask between", x.ask(fourth, NODE, 0, most), 1);
        }
        Counted y = Edges.nodes(0, 0, 0, 0, 0, 0, 0, 0);
        y.test(1, 4, 0, 0);
        int a = y.view(FILTER, 0, 0, -1, 0);
        int b = y.view(FILTER, 0, 0, -1, 0);
        int both = y.view(Edges.JOINED, a, b, 0, 0);
        due("two of eight failures", y.told(both, 5), 0);
        due("asked of none", y.ask(both, NODE, 0, 0), BAD);
        y.arc(0, 0, 0, 0);
        due("after a change", y.told(both, 5), 0);
        due("eight each", y.told(a, 3) + y.told(b, 3), 16);
    }
}
