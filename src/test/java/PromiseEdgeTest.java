import java.io.IOException;

/** The boundary cases that the promises name, a test for each line of theirs that names one. */
public final class PromiseEdgeTest {
    private static final int LEAST = Integer.MIN_VALUE;
    private static final int MOST = Integer.MAX_VALUE;
    private static final String NO_TERM = "Throws `IndexOutOfBoundsException` if there is no such term";
    private static final String NO_TERMS = "Throws `IndexOutOfBoundsException` if there is no such term, for either";
    private static final String NO_NODE = "Throws `IndexOutOfBoundsException` if there is no such node";
    private static final String NO_RULE = "Throws `IndexOutOfBoundsException` if there is no such rule";
    private static final String NO_BEST = "Throws `NoSuchElementException` if it has no best node";
    private static final String FULL = "Throws `IllegalStateException` if there are 120 terms";
    private static final String TOO_LARGE = "Throws `IllegalStateException` if there are 120 terms, or it would be too large";
    private static final String NO_OPERATOR = "Throws `IllegalArgumentException` if there is no such operator";
    private static final String NOT_IN = "Throws `NoSuchElementException` if the term was not put into the graph, for either";

    private static void newObject() {
        Edges.at("Promise 1: A new object");
        Edges.edge("Creates an empty graph without terms and rules.", () -> {
            SaturnalGraph x = new SaturnalGraph();
            Edges.due(0, x.terms());
            Edges.due(0, x.nodes());
            Edges.due(0, x.classes());
            Edges.due(0, x.rounds());
            Edges.due(0, x.clashes());
            Edges.due(0L, x.sum());
            Edges.due(false, x.isDue());
            Edges.due(false, x.isSpent());
            Edges.due(true, x.isSound());
            for (int i = 0; i < 12; i++) {
                int none = i;
                Edges.refused(x, Edges.INDEX, () -> x.size(none));
                Edges.refused(x, Edges.INDEX, () -> x.banned(none));
                Edges.refused(x, Edges.INDEX, () -> x.classOf(none));
            }
            Edges.refused(x, Edges.STATE, x::pop);
            // nothing is shared with another object
            SaturnalGraph y = new SaturnalGraph();
            Edges.rule(y, "fa=a");
            Edges.in(y, "fu");
            y.setCost('f', 9);
            y.setNodes(10);
            y.round();
            y.push();
            Edges.due(0, x.terms() + x.nodes() + x.rounds());
            Edges.due(1, x.setCost('f', 1));
            Edges.due(200, x.setNodes(200));
            Edges.refused(x, Edges.STATE, x::pop);
        });
    }

    private static void leaves() {
        Edges.at("Promise 2: number");
        Edges.edge("- `value`: the number, -99 to 99", () -> {
            SaturnalGraph x = new SaturnalGraph();
            Edges.due(0, x.number(-99));
            Edges.due(1, x.number(99));
            Edges.due(-99, x.numberOf(x.put(0)));
            Edges.due(99, x.numberOf(x.put(1)));
        });
        Edges.edge("Throws `IllegalArgumentException` if it is out of range", () -> {
            SaturnalGraph x = Edges.withTerms(2);
            for (int value : new int[] {-100, 100, LEAST, MOST}) {
                Edges.refused(x, Edges.ARGUMENT, () -> x.number(value));
            }
        });
        Edges.edge(FULL, () -> {
            SaturnalGraph x = Edges.withTerms(119);
            Edges.due(119, x.number(5));
            Edges.refused(x, Edges.STATE, () -> x.number(5));
            Edges.refused(x, Edges.ARGUMENT, () -> x.number(100));
        });
        Edges.at("Promise 3: variable");
        Edges.edge("- `variable`: the variable, 0 to 5", () -> {
            SaturnalGraph x = new SaturnalGraph();
            Edges.due(0, x.variable(0));
            Edges.due(1, x.variable(5));
            Edges.due(32, x.free(x.put(1)));
        });
        Edges.edge("Throws `IllegalArgumentException` if there is no such variable", () -> {
            SaturnalGraph x = Edges.withTerms(2);
            Edges.refusedOutside(x, Edges.ARGUMENT, 6, x::variable);
        });
        Edges.edge(FULL, () -> {
            SaturnalGraph x = Edges.withTerms(119);
            Edges.due(119, x.variable(5));
            Edges.refused(x, Edges.STATE, () -> x.variable(5));
            Edges.refused(x, Edges.ARGUMENT, () -> x.variable(6));
        });
        Edges.at("Promise 4: hole");
        Edges.edge("- `hole`: the hole, 0 to 3", () -> {
            SaturnalGraph x = new SaturnalGraph();
            Edges.due(0, x.hole(0));
            Edges.due(1, x.hole(3));
            Edges.due(0, x.rule(x.two('g', 0, 1), 1, 'n'));
        });
        Edges.edge("Throws `IllegalArgumentException` if there is no such hole", () -> {
            SaturnalGraph x = Edges.withTerms(2);
            Edges.refusedOutside(x, Edges.ARGUMENT, 4, x::hole);
        });
        Edges.edge(FULL, () -> {
            SaturnalGraph x = Edges.withTerms(119);
            Edges.due(119, x.hole(3));
            Edges.refused(x, Edges.STATE, () -> x.hole(3));
            Edges.refused(x, Edges.ARGUMENT, () -> x.hole(4));
        });
    }

    private static void operators() {
        Edges.at("Promise 5: one");
        Edges.edge(NO_OPERATOR, () -> {
            SaturnalGraph x = Edges.withTerms(2);
            for (char c : "+-*gnvhF}\u007f \u0000\uffff".toCharArray()) {
                Edges.refused(x, Edges.ARGUMENT, () -> x.one(c, 1));
                Edges.refused(x, Edges.ARGUMENT, () -> x.one(c, 2));
            }
        });
        Edges.edge(NO_TERM, () -> {
            SaturnalGraph x = Edges.withTerms(2);
            Edges.refusedOutside(x, Edges.INDEX, 2, i -> x.one('f', i));
            SaturnalGraph none = new SaturnalGraph();
            Edges.refusedOutside(none, Edges.INDEX, 0, i -> none.one('~', i));
            SaturnalGraph full = Edges.withTerms(120);
            Edges.refusedOutside(full, Edges.INDEX, 120, i -> full.one('~', i));
        });
        Edges.edge(TOO_LARGE, () -> {
            SaturnalGraph x = Edges.withTerms(119);
            Edges.due(119, x.one('f', 118));
            Edges.refused(x, Edges.STATE, () -> x.one('f', 118));
            SaturnalGraph y = new SaturnalGraph();
            int t = Edges.large(y, 399);
            int full = y.one('f', t);
            Edges.due(400, y.size(full));
            Edges.refused(y, Edges.STATE, () -> y.one('f', full));
            Edges.refused(y, Edges.STATE, () -> y.one('~', full));
        });
        Edges.at("Promise 6: two");
        Edges.edge("- `second`: the number of another one, or the same", () -> {
            SaturnalGraph x = Edges.withTerms(2);
            Edges.due(2, x.two('g', 1, 1));
            Edges.due(3, x.two('g', 1, 0));
            Edges.due(3, x.size(2));
        });
        Edges.edge(NO_OPERATOR, () -> {
            SaturnalGraph x = Edges.withTerms(2);
            for (char c : "~fnvhG/,.\u0000\uffff".toCharArray()) {
                Edges.refused(x, Edges.ARGUMENT, () -> x.two(c, 1, 1));
                Edges.refused(x, Edges.ARGUMENT, () -> x.two(c, 2, -1));
            }
        });
        Edges.edge(NO_TERMS, () -> {
            SaturnalGraph x = Edges.withTerms(2);
            Edges.refusedOutside(x, Edges.INDEX, 2, i -> x.two('+', i, 0));
            Edges.refusedOutside(x, Edges.INDEX, 2, i -> x.two('+', 0, i));
            Edges.refusedOutside(x, Edges.INDEX, 2, i -> x.two('+', i, i));
            SaturnalGraph full = Edges.withTerms(120);
            Edges.refusedOutside(full, Edges.INDEX, 120, i -> full.two('+', 0, i));
        });
        Edges.edge(TOO_LARGE, () -> {
            SaturnalGraph x = Edges.withTerms(119);
            Edges.due(119, x.two('+', 118, 0));
            Edges.refused(x, Edges.STATE, () -> x.two('+', 118, 0));
            SaturnalGraph y = new SaturnalGraph();
            int low = Edges.large(y, 199);
            int high = Edges.large(y, 200);
            int full = y.two('*', high, low);
            Edges.due(400, y.size(full));
            Edges.due(399, y.size(y.two('*', low, low)));
            Edges.refused(y, Edges.STATE, () -> y.two('*', high, high));
            Edges.refused(y, Edges.STATE, () -> y.two('*', full, full));
            Edges.refused(y, Edges.STATE, () -> y.two('*', full, 0));
            Edges.refused(y, Edges.STATE, () -> y.two('*', 0, full));
        });
    }

    private static void termsAndValues() {
        Edges.at("Promise 7: terms");
        Edges.edge("Returns the number of terms.", () -> {
            SaturnalGraph x = new SaturnalGraph();
            Edges.due(0, x.terms());
            Edges.refused(x, Edges.ARGUMENT, () -> x.number(100));
            x.number(1);
            Edges.due(1, x.terms());
            x.put(0);
            x.push();
            x.pop();
            Edges.due(1, x.terms());
            Edges.due(120, Edges.withTerms(120).terms());
        });
        Edges.at("Promise 8: size");
        Edges.edge("each as often as it stands there", () -> {
            SaturnalGraph x = new SaturnalGraph();
            Edges.due(1, x.size(x.number(5)));
            Edges.due(1, x.size(x.variable(5)));
            Edges.due(1, x.size(x.hole(3)));
            int f = x.one('f', 2);
            Edges.due(2, x.size(f));
            int g = x.two('g', f, f);
            Edges.due(5, x.size(g));
            Edges.due(9, x.size(x.two('g', x.two('g', g, 0), 1)));
            for (int size : new int[] {1, 2, 39, 40, 41, 399, 400}) {
                SaturnalGraph y = new SaturnalGraph();
                Edges.due(size, y.size(Edges.large(y, size)));
            }
        });
        Edges.edge(NO_TERM, () -> {
            SaturnalGraph x = Edges.withTerms(3);
            Edges.refusedOutside(x, Edges.INDEX, 3, x::size);
            SaturnalGraph none = new SaturnalGraph();
            Edges.refusedOutside(none, Edges.INDEX, 0, none::size);
        });
        Edges.at("Promise 9: value");
        Edges.edge("variables other than 0 and 1 are 0", () -> {
            SaturnalGraph x = new SaturnalGraph();
            for (int i = 0; i < 6; i++) {
                Edges.due(i == 0 ? 7 : i == 1 ? 9 : 0, x.value(x.variable(i), 7, 9));
            }
            Edges.due(LEAST, x.value(0, LEAST, MOST));
            Edges.due(MOST, x.value(1, LEAST, MOST));
            Edges.due(16, x.value(Edges.term(x, "++w+xy+z+uv"), 7, 9));
        });
        Edges.edge(NO_TERM, () -> {
            SaturnalGraph x = Edges.withTerms(3);
            Edges.refusedOutside(x, Edges.INDEX, 3, i -> x.value(i, 1, 2));
        });
        Edges.edge("Throws `UnsupportedOperationException` if it has a hole", () -> {
            SaturnalGraph x = new SaturnalGraph();
            for (String text : new String[] {"a", "b", "c", "d", "~f~d", "g0c", "gc0", "+u*v-w~d"}) {
                int term = Edges.term(x, text);
                Edges.refused(x, Edges.UNSUPPORTED, () -> x.value(term, 1, 2));
            }
        });
    }

    private static void rules() {
        Edges.at("Promise 10: rule");
        Edges.edge(NO_TERMS, () -> {
            SaturnalGraph x = new SaturnalGraph();
            int left = Edges.term(x, "fa");
            Edges.refusedOutside(x, Edges.INDEX, 2, i -> x.rule(i, left, '-'));
            Edges.refusedOutside(x, Edges.INDEX, 2, i -> x.rule(left, i, '-'));
            Edges.refusedOutside(x, Edges.INDEX, 2, i -> x.rule(0, i, '?'));
        });
        Edges.edge("Throws `IllegalArgumentException` if there is no such condition", () -> {
            SaturnalGraph x = new SaturnalGraph();
            int left = Edges.term(x, "fa");
            for (char c : "NZ_0 v~\u0000\uffff".toCharArray()) {
                Edges.refused(x, Edges.ARGUMENT, () -> x.rule(left, 0, c));
                Edges.refused(x, Edges.ARGUMENT, () -> x.rule(0, left, c));
            }
            Edges.due(0, x.rule(left, 0, '-'));
            Edges.due(1, x.rule(left, 0, 'n'));
            Edges.due(2, x.rule(left, 0, 'z'));
        });
        Edges.edge("Throws `UnsupportedOperationException` if the left term has no operator, a side is too large, the right "
                + "one has a hole that the left one has not, or there is a condition and the left one has no hole 0", () -> {
            SaturnalGraph x = new SaturnalGraph();
            int hole = Edges.term(x, "a");
            int left = Edges.term(x, "fb");
            int right = left - 1;
            int full = Edges.wrap(x, '~', right, 39);
            int large = x.one('~', full);
            Edges.refused(x, Edges.UNSUPPORTED, () -> x.rule(hole, hole, '-'));
            Edges.refused(x, Edges.UNSUPPORTED, () -> x.rule(right, left, '-'));
            Edges.refused(x, Edges.UNSUPPORTED, () -> x.rule(large, right, '-'));
            Edges.refused(x, Edges.UNSUPPORTED, () -> x.rule(left, large, '-'));
            Edges.refused(x, Edges.UNSUPPORTED, () -> x.rule(left, hole, '-'));
            Edges.refused(x, Edges.UNSUPPORTED, () -> x.rule(left, right, 'n'));
            Edges.refused(x, Edges.UNSUPPORTED, () -> x.rule(left, right, 'z'));
            Edges.due(0, x.rule(full, full, '-'));
            Edges.due(1, x.rule(left, right, '-'));
            int both = x.two('g', hole, right);
            Edges.due(2, x.rule(both, hole, 'z'));
            Edges.due(3, x.rule(both, left, 'n'));
        });
        Edges.edge("Throws `IllegalStateException` if there are 12 rules", () -> {
            SaturnalGraph x = new SaturnalGraph();
            int left = Edges.term(x, "fa");
            for (int i = 0; i < 12; i++) {
                Edges.due(i, x.rule(left, 0, '-'));
            }
            Edges.refused(x, Edges.STATE, () -> x.rule(left, 0, '-'));
            Edges.refused(x, Edges.UNSUPPORTED, () -> x.rule(0, left, '-'));
            Edges.refused(x, Edges.ARGUMENT, () -> x.rule(0, left, '?'));
            Edges.refused(x, Edges.INDEX, () -> x.rule(0, 2, '?'));
        });
        Edges.at("Promise 11: holds");
        Edges.edge("holes other than 0 and 1, and variables, are 0", () -> {
            SaturnalGraph x = new SaturnalGraph();
            int first = Edges.rule(x, "+ab=b");
            int others = Edges.rule(x, "+a+cd=a");
            int variables = Edges.rule(x, "+b+uv=b");
            int third = Edges.rule(x, "fc=3");
            Edges.due(true, x.holds(first, 0, 7));
            Edges.due(false, x.holds(first, 1, 7));
            Edges.due(true, x.holds(others, 5, 7));
            Edges.due(true, x.holds(variables, 5, 7));
            Edges.due(true, x.holds(third, 5, 7));
            // as ints wrap
            int wraps = Edges.rule(x, "+aa=0");
            Edges.due(true, x.holds(wraps, LEAST, 0));
            Edges.due(false, x.holds(wraps, MOST, 0));
            Edges.due(true, x.holds(Edges.rule(x, "~a=a"), LEAST, 0));
        });
        Edges.edge(NO_RULE, () -> {
            SaturnalGraph x = withRules(3);
            Edges.refusedOutside(x, Edges.INDEX, 3, i -> x.holds(i, 1, 2));
        });
    }

    /** An object with so many rules, and the nodes u and f of u. */
    private static SaturnalGraph withRules(int many) {
        SaturnalGraph x = new SaturnalGraph();
        for (int i = 0; i < many; i++) {
            Edges.rule(x, "fa=a");
        }
        Edges.in(x, "fu");
        return x;
    }

    private static void limits() {
        Edges.at("Promise 12: setLimit");
        Edges.edge("- `limit`: the limit, 1 to 999", () -> {
            SaturnalGraph x = withRules(2);
            Edges.due(20, x.setLimit(1, 1));
            Edges.due(1, x.setLimit(1, 999));
            Edges.due(999, x.setLimit(1, 20));
            Edges.due(20, x.setLimit(0, 3));
        });
        Edges.edge("Returns the limit before.", () -> {
            SaturnalGraph x = new SaturnalGraph();
            int rule = Edges.rule(x, "gfafb=gfafb");
            int[] f = new int[32];
            for (int i = 0; i < 32; i++) {
                f[i] = x.one('f', x.number(i));
                x.put(f[i]);
                x.join(f[0], f[i]);
            }
            x.put(x.two('g', f[0], f[1]));
            Edges.due(20, x.setLimit(rule, 20));
            x.round();
            Edges.due(40, x.setLimit(rule, 999));
            x.round();
            // 1024 matches: a limit beyond 999, since it was doubled
            x.round();
            Edges.due(2, x.banned(rule));
            Edges.due(1998, x.setLimit(rule, 999));
            Edges.due(999, x.setLimit(rule, 1));
        });
        Edges.edge(NO_RULE, () -> {
            SaturnalGraph x = withRules(12);
            Edges.refusedOutside(x, Edges.INDEX, 12, i -> x.setLimit(i, 5));
            Edges.refusedOutside(x, Edges.INDEX, 12, i -> x.setLimit(i, 0));
            SaturnalGraph none = withRules(0);
            Edges.refusedOutside(none, Edges.INDEX, 0, i -> none.setLimit(i, 5));
        });
        Edges.edge("Throws `IllegalArgumentException` if it is out of range", () -> {
            SaturnalGraph x = withRules(1);
            for (int limit : new int[] {0, -1, 1000, LEAST, MOST}) {
                Edges.refused(x, Edges.ARGUMENT, () -> x.setLimit(0, limit));
            }
        });
        Edges.at("Promise 13: setNodes");
        Edges.edge("- `nodes`: the limit, 10 to 300", () -> {
            SaturnalGraph x = new SaturnalGraph();
            Edges.due(200, x.setNodes(10));
            Edges.due(10, x.setNodes(300));
            Edges.due(300, x.setNodes(11));
            for (int i = 0; i < 11; i++) {
                Edges.due(i, x.put(x.number(i)));
            }
            int more = x.number(11);
            Edges.refused(x, Edges.STATE, () -> x.put(more));
            // below the number of nodes: what is there stays
            Edges.due(11, x.setNodes(10));
            Edges.due(11, x.nodes());
            Edges.due(10, x.put(10));
            Edges.refused(x, Edges.STATE, () -> x.put(more));
        });
        Edges.edge("Throws `IllegalArgumentException` if it is out of range", () -> {
            SaturnalGraph x = withRules(1);
            for (int nodes : new int[] {9, 0, -1, 301, LEAST, MOST}) {
                Edges.refused(x, Edges.ARGUMENT, () -> x.setNodes(nodes));
            }
        });
    }

    private static void puts() {
        Edges.at("Promise 14: put");
        Edges.edge("Returns the number of its node.", () -> {
            SaturnalGraph x = new SaturnalGraph();
            Edges.due(0, Edges.node(x, "5"));
            Edges.due(0, Edges.node(x, "5"));
            Edges.due(2, Edges.node(x, "+5u"));
            Edges.due(1, Edges.node(x, "u"));
            Edges.fact(x, "5", "u");
            Edges.due(1, Edges.node(x, "u"));
            Edges.due(2, Edges.node(x, "+uu"));
        });
        Edges.edge(NO_TERM, () -> {
            SaturnalGraph x = Edges.withTerms(3);
            Edges.refusedOutside(x, Edges.INDEX, 3, x::put);
            SaturnalGraph none = new SaturnalGraph();
            Edges.refusedOutside(none, Edges.INDEX, 0, none::put);
        });
        Edges.edge("Throws `UnsupportedOperationException` if it has a hole", () -> {
            SaturnalGraph x = new SaturnalGraph();
            Edges.in(x, "u");
            for (String text : new String[] {"a", "d", "fb", "guc", "g+uvfa", "gfau"}) {
                int term = Edges.term(x, text);
                Edges.refused(x, Edges.UNSUPPORTED, () -> x.put(term));
            }
        });
        Edges.edge("Throws `IllegalStateException` if there is no room for all new nodes", () -> {
            SaturnalGraph x = new SaturnalGraph();
            x.setNodes(10);
            int[] fs = new int[13];
            fs[0] = Edges.in(x, "u");
            for (int i = 1; i < 13; i++) {
                fs[i] = x.one('f', fs[i - 1]);
            }
            x.put(fs[5]);
            x.rebuild();
            Edges.refused(x, Edges.STATE, () -> x.put(fs[12]));
            Edges.refused(x, Edges.STATE, () -> x.put(fs[10]));
            Edges.due(9, x.put(fs[9]));
            Edges.due(true, x.isDue());
            Edges.refused(x, Edges.STATE, () -> x.put(fs[10]));
            // what is there needs no room
            Edges.due(9, x.put(fs[9]));
            Edges.due(0, x.put(fs[0]));
            // with all places of the object taken
            SaturnalGraph y = grown(300);
            int more = y.one('~', 0);
            Edges.refused(y, Edges.UNSUPPORTED, () -> y.put(more));
            int v = Edges.term(y, "~v");
            Edges.refused(y, Edges.STATE, () -> y.put(v));
            Edges.due(300, y.nodes());
        });
    }

    /** A graph that rules made until it was full: f(f(..)) of u, each with a '*' beside it. */
    private static SaturnalGraph grown(int nodes) {
        SaturnalGraph x = new SaturnalGraph();
        Edges.rule(x, "fa=ff*aa");
        x.setNodes(nodes);
        x.setLimit(0, 999);
        Edges.in(x, "fu");
        char end = 'r';
        for (int i = 0; i < 20 && end == 'r'; i++) {
            end = x.saturate(20);
        }
        Edges.due('n', end);
        Edges.due(nodes, x.nodes());
        return x;
    }

    private static void joins() {
        Edges.at("Promise 15: join");
        Edges.edge("Rebuilding is due then, if they were in different classes.", () -> {
            SaturnalGraph x = new SaturnalGraph();
            int u = Edges.in(x, "u");
            int v = Edges.in(x, "v");
            int w = Edges.in(x, "w");
            x.rebuild();
            Edges.due(false, x.join(u, u));
            Edges.due(false, x.isDue());
            Edges.due(true, x.join(v, w));
            Edges.due(true, x.isDue());
            Edges.due(false, x.join(w, v));
            Edges.due(true, x.isDue());
            x.rebuild();
            Edges.due(false, x.join(w, v));
            Edges.due(false, x.isDue());
        });
        Edges.edge(NO_TERMS, () -> {
            SaturnalGraph x = Edges.withTerms(3);
            x.put(0);
            Edges.refusedOutside(x, Edges.INDEX, 3, i -> x.join(i, 0));
            Edges.refusedOutside(x, Edges.INDEX, 3, i -> x.join(0, i));
            // also if the other one was not put in
            Edges.refusedOutside(x, Edges.INDEX, 3, i -> x.join(2, i));
        });
        Edges.edge(NOT_IN, () -> {
            SaturnalGraph x = Edges.withTerms(3);
            x.put(0);
            Edges.refused(x, Edges.NO_SUCH, () -> x.join(0, 2));
            Edges.refused(x, Edges.NO_SUCH, () -> x.join(2, 0));
            Edges.refused(x, Edges.NO_SUCH, () -> x.join(1, 2));
            Edges.refused(x, Edges.NO_SUCH, () -> x.join(2, 2));
        });
        Edges.at("Promise 16: areSame");
        Edges.edge("Returns whether two terms are in one class.", () -> {
            SaturnalGraph x = new SaturnalGraph();
            int u = Edges.in(x, "u");
            int other = Edges.in(x, "u");
            int v = Edges.in(x, "v");
            Edges.due(true, x.areSame(u, u));
            Edges.due(true, x.areSame(u, other));
            Edges.due(false, x.areSame(u, v));
            x.join(v, other);
            Edges.due(true, x.areSame(u, v));
        });
        Edges.edge(NO_TERMS, () -> {
            SaturnalGraph x = Edges.withTerms(3);
            x.put(0);
            Edges.refusedOutside(x, Edges.INDEX, 3, i -> x.areSame(i, 0));
            Edges.refusedOutside(x, Edges.INDEX, 3, i -> x.areSame(0, i));
            Edges.refusedOutside(x, Edges.INDEX, 3, i -> x.areSame(2, i));
        });
        Edges.edge(NOT_IN, () -> {
            SaturnalGraph x = new SaturnalGraph();
            int u = Edges.in(x, "u");
            int same = Edges.term(x, "u");
            int hole = Edges.term(x, "a");
            Edges.refused(x, Edges.NO_SUCH, () -> x.areSame(u, same));
            Edges.refused(x, Edges.NO_SUCH, () -> x.areSame(same, u));
            Edges.refused(x, Edges.NO_SUCH, () -> x.areSame(same, same));
            Edges.refused(x, Edges.NO_SUCH, () -> x.areSame(hole, hole));
        });
    }

    private static void dues() {
        Edges.at("Promise 17: isDue");
        Edges.edge("behind join(), or put() of something new, until it is done", () -> {
            SaturnalGraph x = new SaturnalGraph();
            Edges.rule(x, "fa=a");
            Edges.due(false, x.isDue());
            int term = Edges.in(x, "fu");
            Edges.due(true, x.isDue());
            x.rebuild();
            Edges.due(false, x.isDue());
            // nothing new: another term, but no node
            x.put(term);
            Edges.in(x, "u");
            Edges.in(x, "fu");
            Edges.due(false, x.isDue());
            Edges.in(x, "v");
            x.round();
            Edges.due(false, x.isDue());
            Edges.fact(x, "u", "v");
            Edges.due(true, x.isDue());
            x.saturate(1);
            Edges.due(false, x.isDue());
        });
        Edges.at("Promise 18: rebuild");
        Edges.edge("Returns how many nodes are joined by it, by congruence and by reckonings.", () -> {
            Edges.due(0, new SaturnalGraph().rebuild());
            SaturnalGraph x = new SaturnalGraph();
            Edges.in(x, "gfu*23");
            Edges.in(x, "gfv6");
            Edges.fact(x, "u", "v");
            // f and f; 6; g and g
            Edges.due(3, x.rebuild());
            Edges.due(0, x.rebuild());
            // also if it is not due: a number that had no room has some
            SaturnalGraph y = new SaturnalGraph();
            y.setNodes(13);
            Edges.in(y, "g+12g+35g+46u");
            Edges.due(13, y.nodes());
            Edges.due(1, y.rebuild());
            Edges.due(false, y.isDue());
            Edges.due(0, y.rebuild());
            y.setNodes(14);
            Edges.due(1, y.rebuild());
            Edges.due(8, y.numberOf(13));
            y.setNodes(15);
            Edges.due(1, y.rebuild());
            Edges.due(10, y.numberOf(14));
            Edges.due(0, y.rebuild());
        });
    }

    private static void nodes() {
        Edges.at("Promise 19: nodes");
        Edges.edge("Returns the number of nodes.", () -> {
            SaturnalGraph x = new SaturnalGraph();
            Edges.due(0, x.nodes());
            Edges.in(x, "guu");
            Edges.due(2, x.nodes());
            Edges.fact(x, "guu", "u");
            Edges.due(2, x.nodes());
            Edges.due(300, grown(300).nodes());
        });
        Edges.at("Promise 20: classes");
        Edges.edge("Returns the number of classes.", () -> {
            SaturnalGraph x = new SaturnalGraph();
            Edges.due(0, x.classes());
            Edges.in(x, "guv");
            Edges.due(3, x.classes());
            Edges.fact(x, "guv", "v");
            Edges.due(2, x.classes());
            Edges.fact(x, "u", "v");
            Edges.due(1, x.classes());
        });
        Edges.at("Promise 21: classOf");
        Edges.edge(NO_NODE, () -> {
            SaturnalGraph x = withRules(1);
            Edges.refusedOutside(x, Edges.INDEX, 2, x::classOf);
            SaturnalGraph none = new SaturnalGraph();
            Edges.refusedOutside(none, Edges.INDEX, 0, none::classOf);
            SaturnalGraph full = grown(300);
            Edges.due(true, full.classOf(299) <= 299);
            Edges.refusedOutside(full, Edges.INDEX, 300, full::classOf);
        });
        Edges.at("Promise 22: nodesIn");
        Edges.edge("Returns the number of nodes of a class.", () -> {
            SaturnalGraph x = new SaturnalGraph();
            Edges.fact(x, "u", "w");
            Edges.in(x, "v");
            Edges.due(2, x.nodesIn(0));
            Edges.due(2, x.nodesIn(1));
            Edges.due(1, x.nodesIn(2));
            Edges.fact(x, "u", "v");
            Edges.due(3, x.nodesIn(2));
        });
        Edges.edge(NO_NODE, () -> {
            SaturnalGraph x = withRules(1);
            Edges.refusedOutside(x, Edges.INDEX, 2, x::nodesIn);
        });
        Edges.at("Promise 23: kindOf");
        Edges.edge("Returns 'n' a number, 'v' a variable, or its operator.", () -> {
            SaturnalGraph x = new SaturnalGraph();
            Edges.in(x, "g*-+~fu0000");
            String kinds = "";
            for (int i = 0; i < x.nodes(); i++) {
                kinds += x.kindOf(i);
            }
            Edges.due("vf~n+-*g", kinds);
        });
        Edges.edge(NO_NODE, () -> {
            SaturnalGraph x = withRules(1);
            Edges.refusedOutside(x, Edges.INDEX, 2, x::kindOf);
        });
        Edges.at("Promise 24: numberOf");
        Edges.edge("Returns the number or the variable of a node.", () -> {
            SaturnalGraph x = new SaturnalGraph();
            Edges.due(-99, x.numberOf(x.put(x.number(-99))));
            Edges.due(5, x.numberOf(x.put(x.variable(5))));
            Edges.due(0, x.numberOf(x.put(x.variable(0))));
            // a number that was reckoned, beyond 99
            Edges.fact(x, "u", "*99");
            Edges.in(x, "*u*99");
            x.rebuild();
            Edges.due(81, x.numberOf(6));
            Edges.due(81 * 81, x.numberOf(7));
        });
        Edges.edge(NO_NODE, () -> {
            SaturnalGraph x = withRules(1);
            Edges.refusedOutside(x, Edges.INDEX, 2, x::numberOf);
        });
        Edges.edge("Throws `UnsupportedOperationException` if it has an operator", () -> {
            SaturnalGraph x = new SaturnalGraph();
            Edges.in(x, "g*-+~fu0000");
            for (int node : new int[] {1, 2, 4, 5, 6, 7}) {
                Edges.refused(x, Edges.UNSUPPORTED, () -> x.numberOf(node));
            }
            // also if there is a number in its class
            Edges.fact(x, "*00", "0");
            Edges.refused(x, Edges.UNSUPPORTED, () -> x.numberOf(8));
        });
        Edges.at("Promise 25: part");
        Edges.edge("Returns the class of a part of a node, as it is now.", () -> {
            SaturnalGraph x = new SaturnalGraph();
            Edges.in(x, "guv");
            Edges.due(0, x.part(2, 0));
            Edges.due(1, x.part(2, 1));
            Edges.fact(x, "v", "u");
            Edges.due(0, x.part(2, 1));
        });
        Edges.edge("- `part`: the part, from 0", () -> {
            SaturnalGraph x = new SaturnalGraph();
            Edges.in(x, "gvfu");
            Edges.due(1, x.part(2, 0));
            Edges.due(0, x.part(3, 0));
            Edges.due(2, x.part(3, 1));
        });
        Edges.edge(NO_NODE, () -> {
            SaturnalGraph x = withRules(1);
            Edges.refusedOutside(x, Edges.INDEX, 2, i -> x.part(i, 0));
            Edges.refusedOutside(x, Edges.INDEX, 2, i -> x.part(i, -1));
        });
        Edges.edge("Throws `NoSuchElementException` if there is no such part", () -> {
            SaturnalGraph x = new SaturnalGraph();
            Edges.in(x, "g+v0fu");
            int[] parts = {0, 0, 2, 0, 1, 2};
            for (int i = 0; i < parts.length; i++) {
                int node = i;
                Edges.refusedOutside(x, Edges.NO_SUCH, parts[i], part -> x.part(node, part));
            }
        });
    }

    private static void riders() {
        Edges.at("Promise 26: constant");
        Edges.edge("Returns the constant of a class.", () -> {
            SaturnalGraph x = new SaturnalGraph();
            Edges.fact(x, "u", "-29");
            for (int node : new int[] {0, 3}) {
                Edges.due(-7, x.constant(node));
            }
            Edges.due(2, x.constant(1));
            Edges.due(9, x.constant(2));
        });
        Edges.edge(NO_NODE, () -> {
            SaturnalGraph x = withRules(1);
            Edges.refusedOutside(x, Edges.INDEX, 2, x::constant);
        });
        Edges.edge("Throws `NoSuchElementException` if it has none", () -> {
            SaturnalGraph x = withRules(1);
            Edges.refused(x, Edges.NO_SUCH, () -> x.constant(0));
            Edges.refused(x, Edges.NO_SUCH, () -> x.constant(1));
            Edges.fact(x, "u", "0");
            Edges.due(0, x.constant(0));
            Edges.refused(x, Edges.NO_SUCH, () -> x.constant(1));
        });
        Edges.at("Promise 27: free");
        Edges.edge("Returns the sum of 2 to the power of each of them.", () -> {
            SaturnalGraph x = new SaturnalGraph();
            Edges.due(0, x.free(Edges.node(x, "5")));
            Edges.due(1, x.free(Edges.node(x, "u")));
            Edges.due(32, x.free(Edges.node(x, "z")));
            Edges.due(33, x.free(Edges.node(x, "guz")));
            Edges.due(63, x.free(Edges.node(x, "gg+u-v*w~xyguz")));
        });
        Edges.edge(NO_NODE, () -> {
            SaturnalGraph x = withRules(1);
            Edges.refusedOutside(x, Edges.INDEX, 2, x::free);
        });
        Edges.at("Promise 28: clashes");
        Edges.edge("Returns the number of classes that are a clash.", () -> {
            SaturnalGraph x = new SaturnalGraph();
            Edges.due(0, x.clashes());
            Edges.fact(x, "1", "2");
            Edges.due(1, x.clashes());
            Edges.fact(x, "3", "4");
            Edges.due(2, x.clashes());
            Edges.fact(x, "1", "3");
            Edges.due(1, x.clashes());
            x.rebuild();
            Edges.due(1, x.clashes());
        });
    }

    private static void matching() {
        Edges.at("Promise 29: matches");
        Edges.edge("Returns the number of matches that a rule has now, whatever is banned.", () -> {
            SaturnalGraph x = new SaturnalGraph();
            int rule = Edges.rule(x, "fa=fa");
            Edges.due(0, x.matches(rule));
            Edges.in(x, "fffu");
            x.setLimit(rule, 1);
            x.round();
            Edges.due(1, x.banned(rule));
            Edges.due(3, x.matches(rule));
            Edges.fact(x, "fu", "u");
            x.rebuild();
            Edges.due(1, x.matches(rule));
            // far beyond the limit
            x.setLimit(rule, 1);
            for (int i = 0; i < 30; i++) {
                x.put(x.one('f', x.number(i)));
            }
            x.rebuild();
            Edges.due(31, x.matches(rule));
        });
        Edges.edge(NO_RULE, () -> {
            SaturnalGraph x = withRules(2);
            Edges.refusedOutside(x, Edges.INDEX, 2, x::matches);
            x.rebuild();
            Edges.refusedOutside(x, Edges.INDEX, 2, x::matches);
        });
        Edges.edge("Throws `IllegalStateException` if rebuilding is due", () -> {
            SaturnalGraph x = withRules(1);
            Edges.refused(x, Edges.STATE, () -> x.matches(0));
            x.rebuild();
            Edges.due(1, x.matches(0));
            Edges.in(x, "v");
            Edges.refused(x, Edges.STATE, () -> x.matches(0));
            x.rebuild();
            Edges.fact(x, "u", "v");
            Edges.refused(x, Edges.STATE, () -> x.matches(0));
            x.round();
            Edges.due(1, x.matches(0));
        });
    }

    private static void rounds() {
        Edges.at("Promise 30: round");
        Edges.edge("Returns how many matches joined different classes.", () -> {
            Edges.due(0, new SaturnalGraph().round());
            SaturnalGraph x = new SaturnalGraph();
            Edges.rule(x, "fa=a");
            Edges.rule(x, "fa=u");
            Edges.in(x, "fu");
            Edges.in(x, "ffu");
            // f of u joins u, then u the other f; by the other rule both are joined already
            Edges.due(2, x.round());
            Edges.due(4, x.applied(0) + x.applied(1));
            Edges.due(0, x.round());
            // what congruence joins does not count
            SaturnalGraph y = new SaturnalGraph();
            Edges.rule(y, "~a=a");
            Edges.in(y, "f~u");
            Edges.in(y, "fu");
            Edges.due(1, y.round());
            Edges.due(2, y.classes());
        });
        Edges.at("Promise 31: saturate");
        Edges.edge("- `rounds`: how many at most, 1 to 20", () -> {
            for (int many : new int[] {1, 2, 19, 20}) {
                SaturnalGraph x = growing();
                Edges.due('r', x.saturate(many));
                Edges.due(many, x.rounds());
            }
        });
        Edges.edge("until one of whose matches none joins different classes", () -> {
            SaturnalGraph empty = new SaturnalGraph();
            Edges.due('s', empty.saturate(20));
            Edges.due(1, empty.rounds());
            SaturnalGraph x = withRules(1);
            Edges.due('r', x.saturate(1));
            Edges.due('s', x.saturate(1));
            Edges.due(2, x.rounds());
            SaturnalGraph y = withRules(1);
            Edges.due('s', y.saturate(20));
            Edges.due(2, y.rounds());
            // new nodes do not count, if nothing was joined
            SaturnalGraph z = new SaturnalGraph();
            Edges.rule(z, "fu=fu");
            Edges.in(z, "fu");
            Edges.due('s', z.saturate(5));
            Edges.due(1, z.rounds());
            Edges.due(1, z.applied(0));
        });
        Edges.edge("while no rule is banned or was held back in it", () -> {
            SaturnalGraph x = new SaturnalGraph();
            int rule = Edges.rule(x, "fa=fa");
            Edges.in(x, "ffu");
            x.setLimit(rule, 1);
            // held back, then banned, then without a join
            Edges.due('r', x.saturate(1));
            Edges.due(1, x.banned(rule));
            Edges.due('r', x.saturate(1));
            Edges.due(0, x.banned(rule));
            Edges.due(0, x.applied(rule));
            Edges.due('s', x.saturate(1));
            Edges.due(2, x.applied(rule));
            SaturnalGraph y = new SaturnalGraph();
            Edges.rule(y, "fa=fa");
            Edges.in(y, "ffu");
            y.setLimit(0, 1);
            Edges.due('s', y.saturate(20));
            Edges.due(3, y.rounds());
            // another rule that has nothing to do is not enough
            SaturnalGraph z = new SaturnalGraph();
            Edges.rule(z, "fa=fa");
            Edges.rule(z, "~a=a");
            Edges.in(z, "ffu");
            z.setLimit(0, 1);
            Edges.due('r', z.saturate(2));
            Edges.due('s', z.saturate(2));
            Edges.due(3, z.rounds());
        });
        Edges.edge("the limit of nodes ends one, or all are done", () -> {
            SaturnalGraph x = growing();
            x.setNodes(10);
            Edges.due('n', x.saturate(20));
            Edges.due(true, x.rounds() < 6);
            Edges.due(10, x.nodes());
            int rounds = x.rounds();
            // without a join: ended by the limit all the same
            Edges.due('n', x.saturate(20));
            Edges.due(rounds + 1, x.rounds());
            x.setNodes(300);
            Edges.due('r', x.saturate(2));
            // just enough room is no end
            SaturnalGraph y = new SaturnalGraph();
            Edges.rule(y, "fa=~a");
            Edges.in(y, "fu");
            for (String text : "v w x y z 0 1".split(" ")) {
                Edges.in(y, text);
            }
            y.setNodes(10);
            Edges.due('s', y.saturate(2));
            Edges.due(10, y.nodes());
        });
        Edges.edge("Returns 's' saturated, 'n' ended by the limit of nodes, 'r' otherwise.", () -> {
            SaturnalGraph x = growing();
            Edges.due('r', x.saturate(3));
            x.setNodes(10);
            Edges.due('n', x.saturate(3));
            SaturnalGraph y = withRules(1);
            Edges.due('s', y.saturate(3));
        });
        Edges.edge("Throws `IllegalArgumentException` if the number is out of range", () -> {
            SaturnalGraph x = growing();
            for (int rounds : new int[] {0, -1, 21, LEAST, MOST}) {
                Edges.refused(x, Edges.ARGUMENT, () -> x.saturate(rounds));
            }
        });
    }

    /** A graph that gets some nodes more in each round. */
    private static SaturnalGraph growing() {
        SaturnalGraph x = new SaturnalGraph();
        Edges.rule(x, "fa=fgaa");
        Edges.in(x, "fu");
        return x;
    }

    private static void counts() {
        Edges.at("Promise 32: rounds");
        Edges.edge("Returns the number of rounds that were done.", () -> {
            SaturnalGraph x = growing();
            Edges.due(0, x.rounds());
            x.round();
            x.saturate(4);
            Edges.due(5, x.rounds());
            x.rebuild();
            Edges.refused(x, Edges.ARGUMENT, () -> x.saturate(0));
            Edges.due(5, x.rounds());
            // one that the limit ended was done too
            x.setNodes(10);
            x.round();
            Edges.due(true, x.isSpent());
            Edges.due(6, x.rounds());
        });
        Edges.at("Promise 33: isSpent");
        Edges.edge("Returns whether the last round was ended by the limit of nodes.", () -> {
            SaturnalGraph x = growing();
            Edges.due(false, x.isSpent());
            int large = Edges.term(x, "g~~u~~~~~~~v");
            x.setNodes(10);
            // a refused put is no round
            Edges.refused(x, Edges.STATE, () -> x.put(large));
            Edges.due(false, x.isSpent());
            while (x.rounds() < 20 && !x.isSpent()) {
                x.round();
            }
            Edges.due(true, x.isSpent());
            x.rebuild();
            Edges.due(true, x.isSpent());
            x.setNodes(300);
            Edges.due(true, x.isSpent());
            x.round();
            Edges.due(false, x.isSpent());
            // a number that has no room is no end
            SaturnalGraph y = new SaturnalGraph();
            y.setNodes(10);
            for (String text : "*23 u v w x y z *33".split(" ")) {
                Edges.in(y, text);
            }
            y.round();
            Edges.due(10, y.nodes());
            Edges.due(false, y.isSpent());
        });
        Edges.at("Promise 34: banned");
        Edges.edge("Returns for how many more rounds a rule is banned.", () -> {
            SaturnalGraph x = new SaturnalGraph();
            Edges.rule(x, "fa=fa");
            Edges.rule(x, "fa=fa");
            Edges.in(x, "ffffu");
            x.setLimit(1, 3);
            Edges.due(0, x.banned(0));
            x.round();
            Edges.due(0, x.banned(0));
            Edges.due(1, x.banned(1));
            x.rebuild();
            x.setLimit(1, 3);
            Edges.due(1, x.banned(1));
            x.round();
            Edges.due(0, x.banned(1));
            x.round();
            Edges.due(2, x.banned(1));
            // also in a round that the limit ends
            Edges.rule(x, "~a=ga~a");
            Edges.in(x, "~u");
            x.setNodes(11);
            for (String text : "v w x y z".split(" ")) {
                Edges.in(x, text);
            }
            Edges.due(11, x.nodes());
            x.round();
            Edges.due(true, x.isSpent());
            Edges.due(1, x.banned(1));
        });
        Edges.edge(NO_RULE, () -> {
            SaturnalGraph x = withRules(11);
            Edges.refusedOutside(x, Edges.INDEX, 11, x::banned);
        });
        Edges.at("Promise 35: applied");
        Edges.edge("Returns the number of matches that were applied.", () -> {
            SaturnalGraph x = new SaturnalGraph();
            int rule = Edges.rule(x, "fa=a");
            Edges.due(0, x.applied(rule));
            Edges.in(x, "fu");
            Edges.in(x, "fv");
            x.round();
            Edges.due(2, x.applied(rule));
            // also those that join nothing, each time anew
            x.round();
            Edges.due(4, x.applied(rule));
            x.setLimit(rule, 1);
            x.round();
            Edges.due(4, x.applied(rule));
        });
        Edges.edge(NO_RULE, () -> {
            SaturnalGraph x = withRules(12);
            Edges.refusedOutside(x, Edges.INDEX, 12, x::applied);
        });
    }

    private static void costs() {
        Edges.at("Promise 36: setCost");
        Edges.edge("- `cost`: the cost, 1 to 99", () -> {
            SaturnalGraph x = new SaturnalGraph();
            for (char c : "~f+-*g".toCharArray()) {
                Edges.due(1, x.setCost(c, 99));
                Edges.due(99, x.setCost(c, 1));
                Edges.due(1, x.setCost(c, c == 'g' ? 50 : 2));
            }
            Edges.due(54, x.cost(Edges.node(x, "gf3u")));
        });
        Edges.edge("Throws `IllegalArgumentException` if there is no such operator, or the cost is out of range", () -> {
            SaturnalGraph x = withRules(1);
            for (char c : "nvhFG \u0000\uffff".toCharArray()) {
                Edges.refused(x, Edges.ARGUMENT, () -> x.setCost(c, 5));
            }
            for (char c : "~f+-*g".toCharArray()) {
                for (int cost : new int[] {0, -1, 100, LEAST, MOST}) {
                    Edges.refused(x, Edges.ARGUMENT, () -> x.setCost(c, cost));
                }
            }
        });
        Edges.at("Promise 37: cost");
        Edges.edge("Returns the cost of a class.", () -> {
            SaturnalGraph x = new SaturnalGraph();
            Edges.due(1, x.cost(Edges.node(x, "u")));
            Edges.due(5, x.cost(Edges.node(x, "gu+uv")));
            Edges.fact(x, "+uv", "w");
            Edges.due(3, x.cost(Edges.node(x, "gu+uv")));
            Edges.due(1, x.cost(Edges.node(x, "+uv")));
        });
        Edges.edge(NO_NODE, () -> {
            SaturnalGraph x = withRules(1);
            Edges.refusedOutside(x, Edges.INDEX, 2, x::cost);
        });
        Edges.at("Promise 38: best");
        Edges.edge(NO_NODE, () -> {
            SaturnalGraph x = withRules(1);
            Edges.refusedOutside(x, Edges.INDEX, 2, x::best);
        });
        Edges.edge(NO_BEST, () -> {
            SaturnalGraph x = dear();
            int node = dearNode(x);
            Edges.due(1000000, x.cost(node));
            Edges.refused(x, Edges.NO_SUCH, () -> x.best(node));
            int below = x.part(node, 0);
            Edges.due(true, x.cost(below) < 1000000);
            Edges.due(below, x.best(below));
        });
        Edges.at("Promise 39: sharedCost");
        Edges.edge("if each class in it is paid once", () -> {
            SaturnalGraph x = new SaturnalGraph();
            Edges.due(1, x.sharedCost(Edges.node(x, "u")));
            Edges.due(2, x.sharedCost(Edges.node(x, "guu")));
            Edges.due(3, x.sharedCost(Edges.node(x, "gguuguu")));
            Edges.fact(x, "u", "v");
            Edges.due(2, x.sharedCost(Edges.node(x, "*uv")));
            Edges.due(3, x.cost(Edges.node(x, "*uv")));
        });
        Edges.edge(NO_NODE, () -> {
            SaturnalGraph x = withRules(1);
            Edges.refusedOutside(x, Edges.INDEX, 2, x::sharedCost);
        });
        Edges.edge(NO_BEST, () -> {
            SaturnalGraph x = dear();
            int node = dearNode(x);
            Edges.refused(x, Edges.NO_SUCH, () -> x.sharedCost(node));
            Edges.due(13 * 99 + 1, x.sharedCost(x.part(node, 0)));
        });
        Edges.at("Promise 40: bestValue");
        Edges.edge("variables other than 0 and 1 are 0", () -> {
            SaturnalGraph x = new SaturnalGraph();
            for (int i = 0; i < 6; i++) {
                Edges.due(i == 0 ? LEAST : i == 1 ? MOST : 0, x.bestValue(x.put(x.variable(i)), LEAST, MOST));
            }
            Edges.due(-1, x.bestValue(Edges.node(x, "+uv"), LEAST, MOST));
            Edges.due(-4, x.bestValue(Edges.node(x, "f+uv"), LEAST, MOST));
            Edges.due(3, x.bestValue(Edges.node(x, "fw"), LEAST, MOST));
        });
        Edges.edge(NO_NODE, () -> {
            SaturnalGraph x = withRules(1);
            Edges.refusedOutside(x, Edges.INDEX, 2, i -> x.bestValue(i, 1, 2));
        });
        Edges.edge(NO_BEST, () -> {
            SaturnalGraph x = dear();
            int node = dearNode(x);
            Edges.refused(x, Edges.NO_SUCH, () -> x.bestValue(node, 1, 2));
            int value = 1;
            for (int i = 0; i < 13; i++) {
                value = 48 * value;
            }
            Edges.due(value, x.bestValue(x.part(node, 0), 1, 2));
        });
    }

    /** g(x, x) of g(x, x) and so on, 14 deep, with a cost of 99 for each. */
    private static SaturnalGraph dear() {
        SaturnalGraph x = growing();
        x.setCost('g', 99);
        Edges.due('r', x.saturate(14));
        return x;
    }

    private static int dearNode(SaturnalGraph x) {
        int found = -1;
        for (int i = 0; i < x.nodes(); i++) {
            found = x.kindOf(i) == 'g' ? i : found;
        }
        return found;
    }

    private static void chains() {
        Edges.at("Promise 41: why");
        Edges.edge("from the node of the first one along links to that of the second one, without going along one twice",
                () -> {
            SaturnalGraph x = new SaturnalGraph();
            int u = Edges.in(x, "u");
            int[] v = {Edges.in(x, "v"), Edges.in(x, "w"), Edges.in(x, "x"), Edges.in(x, "y")};
            x.join(u, v[0]);
            x.join(v[1], v[0]);
            x.join(v[1], v[2]);
            x.join(v[3], v[1]);
            Edges.due(0, x.why(u, u));
            Edges.due(0, x.why(u, Edges.in(x, "u")));
            Edges.due(3, x.why(u, v[2]));
            Edges.due(3, x.why(v[2], u));
            Edges.due(2, x.why(v[2], v[3]));
            Edges.due(1, x.why(v[1], v[3]));
            // every two of a class, in whatever order it was joined
            String[] orders = {"uv vw wx xy yz", "yz xy wx vw uv", "vu wv wx yx zy", "uv zy vw yx wx", "xw vw uv xy yz"};
            for (String order : orders) {
                SaturnalGraph y = new SaturnalGraph();
                for (int i = 0; i < 6; i++) {
                    y.put(y.variable(i));
                }
                for (String pair : order.split(" ")) {
                    y.join(pair.charAt(0) - 'u', pair.charAt(1) - 'u');
                }
                for (int i = 0; i < 36; i++) {
                    Edges.due(Math.abs(i / 6 - i % 6), y.why(i / 6, i % 6));
                }
            }
        });
        Edges.edge("congruence counts the lengths of the chains from the parts of the node from which it goes to those of "
                + "the other one", () -> {
            SaturnalGraph x = new SaturnalGraph();
            int low = Edges.in(x, "fguv");
            int high = Edges.in(x, "fgwv");
            Edges.fact(x, "u", "x");
            Edges.fact(x, "x", "w");
            x.rebuild();
            // u to w by two facts, v to v by nothing
            Edges.due(2, x.why(low, high));
            Edges.due(2, x.why(low - 1, high - 1));
            Edges.due(0, x.why(low, low));
        });
        Edges.edge("Returns the length, at most 1000000.", () -> {
            int[] sums = {18, 16, 12, 10, 9, 4, 3, 1, 0, 0, 0};
            for (int extra = 0; extra < 3; extra++) {
                SaturnalGraph x = new SaturnalGraph();
                int[] ends = longChain(x, 18, java.util.Arrays.copyOf(sums, 9 + extra));
                Edges.due(Math.min(1000000, 999999 + extra), x.why(ends[0], ends[1]));
                Edges.due(Math.min(1000000, 999999 + extra), x.why(ends[1], ends[0]));
                Edges.due(100, x.whyAt(ends[0], ends[1], 999));
                Edges.refused(x, Edges.NO_SUCH, () -> x.whyAt(ends[0], ends[1], 1000));
            }
            SaturnalGraph y = new SaturnalGraph();
            int[] ends = longChain(y, 23, 23, 23);
            Edges.due(1000000, y.why(ends[0], ends[1]));
        });
        Edges.edge(NO_TERMS, () -> {
            SaturnalGraph x = Edges.withTerms(3);
            x.put(0);
            Edges.refusedOutside(x, Edges.INDEX, 3, i -> x.why(i, 0));
            Edges.refusedOutside(x, Edges.INDEX, 3, i -> x.why(0, i));
            Edges.refusedOutside(x, Edges.INDEX, 3, i -> x.why(2, i));
        });
        Edges.edge("Throws `NoSuchElementException` if the term was not put into the graph, for either, or they are not in "
                + "one class", () -> {
            SaturnalGraph x = Edges.withTerms(3);
            x.put(0);
            Edges.refused(x, Edges.NO_SUCH, () -> x.why(0, 2));
            Edges.refused(x, Edges.NO_SUCH, () -> x.why(2, 0));
            Edges.refused(x, Edges.NO_SUCH, () -> x.why(2, 2));
            x.put(2);
            Edges.refused(x, Edges.NO_SUCH, () -> x.why(0, 2));
            x.join(0, 2);
            Edges.due(1, x.why(0, 2));
        });
    }

    /**
     * Two terms with a chain between them that is as long as the sum of those of some storeys; the storey 0
     * has 1 step, and each other one twice as many as the one below it, and two more.
     */
    private static int[] longChain(SaturnalGraph x, int storeys, int... sums) {
        int[] left = new int[storeys + 1];
        int[] right = new int[storeys + 1];
        for (int i = 0; i <= storeys; i++) {
            left[i] = x.number(i);
            right[i] = x.number(i + 40);
            x.put(left[i]);
            x.put(right[i]);
            if (i > 0) {
                int low = x.two('g', left[i - 1], left[i - 1]);
                int high = x.two('g', right[i - 1], right[i - 1]);
                x.put(low);
                x.put(high);
                x.join(low, left[i]);
                x.join(high, right[i]);
            }
        }
        int[] ends = {left[sums[0]], right[sums[0]]};
        for (int i = 1; i < sums.length; i++) {
            ends[0] = x.two('g', ends[0], left[sums[i]]);
            ends[1] = x.two('g', ends[1], right[sums[i]]);
        }
        x.put(ends[0]);
        x.put(ends[1]);
        // last, since the part of a new node is the lowest node of its class
        x.join(left[0], right[0]);
        x.rebuild();
        return ends;
    }

    private static void steps() {
        Edges.at("Promise 42: whyAt");
        Edges.edge("those of parts from the left to the right", () -> {
            SaturnalGraph x = new SaturnalGraph();
            int first = Edges.rule(x, "fa=a");
            int second = Edges.rule(x, "~a=a");
            int from = Edges.in(x, "gf~ug~vw");
            int to = Edges.in(x, "gugxw");
            x.round();
            Edges.fact(x, "v", "x");
            x.rebuild();
            int[] due = {first, second, second, 100};
            Edges.due(4, x.why(from, to));
            for (int i = 0; i < 4; i++) {
                Edges.due(due[i], x.whyAt(from, to, i));
            }
            // the other way each part is gone along backwards, but the first part still comes first
            int[] back = {second, first, 100, second};
            for (int i = 0; i < 4; i++) {
                Edges.due(back[i], x.whyAt(to, from, i));
            }
        });
        Edges.edge("Returns a step of this chain", () -> {
            // in each order of the links: a rule, a congruence of two facts, a reckoning, a congruence of a rule
            for (int order = 0; order < 24; order++) {
                mixedChain(order);
            }
        });
        Edges.edge("- `step`: the step, from 0, at most 999", () -> {
            // 766 + 190 + 22 + 22 are 1000, and one more
            SaturnalGraph x = new SaturnalGraph();
            int[] ends = longChain(x, 9, 8, 6, 3, 3);
            Edges.due(1000, x.why(ends[0], ends[1]));
            Edges.due(100, x.whyAt(ends[0], ends[1], 0));
            Edges.due(100, x.whyAt(ends[0], ends[1], 999));
            Edges.refused(x, Edges.NO_SUCH, () -> x.whyAt(ends[0], ends[1], 1000));
            SaturnalGraph y = new SaturnalGraph();
            int[] more = longChain(y, 9, 8, 6, 3, 3, 0);
            Edges.due(1001, y.why(more[0], more[1]));
            Edges.due(100, y.whyAt(more[0], more[1], 999));
            Edges.refused(y, Edges.NO_SUCH, () -> y.whyAt(more[0], more[1], 1000));
            SaturnalGraph z = new SaturnalGraph();
            int[] less = longChain(z, 9, 8, 6, 3, 2, 1, 1, 0, 0, 0);
            Edges.due(999, z.why(less[0], less[1]));
            Edges.due(100, z.whyAt(less[0], less[1], 998));
            Edges.refused(z, Edges.NO_SUCH, () -> z.whyAt(less[0], less[1], 999));
        });
        Edges.edge("Returns the rule, 100 for a fact, 101 for a reckoning.", () -> {
            SaturnalGraph x = new SaturnalGraph();
            for (int i = 0; i < 11; i++) {
                Edges.rule(x, "~~a=a");
            }
            int last = Edges.rule(x, "fa=a");
            Edges.due(11, last);
            int from = Edges.in(x, "f*23");
            int to = Edges.in(x, "u");
            int six = Edges.in(x, "6");
            x.join(six, to);
            x.round();
            Edges.due(3, x.why(from, to));
            Edges.due(11, x.whyAt(from, to, 0));
            Edges.due(101, x.whyAt(from, to, 1));
            Edges.due(100, x.whyAt(from, to, 2));
            Edges.due(11, x.whyAt(to, from, 2));
        });
        Edges.edge(NO_TERMS, () -> {
            SaturnalGraph x = Edges.withTerms(3);
            x.put(0);
            Edges.refusedOutside(x, Edges.INDEX, 3, i -> x.whyAt(i, 0, 0));
            Edges.refusedOutside(x, Edges.INDEX, 3, i -> x.whyAt(0, i, 0));
            Edges.refusedOutside(x, Edges.INDEX, 3, i -> x.whyAt(2, i, -1));
        });
        Edges.edge("Throws `NoSuchElementException` if the term was not put into the graph, for either, or they are not in "
                + "one class, or there is no such step", () -> {
            SaturnalGraph x = Edges.withTerms(4);
            x.put(0);
            x.put(1);
            x.put(3);
            x.join(0, 1);
            Edges.refused(x, Edges.NO_SUCH, () -> x.whyAt(0, 2, 0));
            Edges.refused(x, Edges.NO_SUCH, () -> x.whyAt(2, 0, 0));
            Edges.refused(x, Edges.NO_SUCH, () -> x.whyAt(0, 3, 0));
            Edges.due(100, x.whyAt(0, 1, 0));
            Edges.refusedOutside(x, Edges.NO_SUCH, 1, i -> x.whyAt(0, 1, i));
            Edges.refusedOutside(x, Edges.NO_SUCH, 0, i -> x.whyAt(0, 0, i));
        });
    }

    /** A chain by links of all kinds, with the facts that lead to it told in some order. */
    private static void mixedChain(int order) {
        SaturnalGraph x = new SaturnalGraph();
        int rule = Edges.rule(x, "-ab=a");
        int product = Edges.in(x, "*15");
        int first = Edges.in(x, "-gvvw");
        int low = Edges.in(x, "gvv");
        int high = Edges.in(x, "gzz");
        int last = Edges.in(x, "fu");
        int five = Edges.in(x, "5");
        int v = Edges.in(x, "v");
        int y = Edges.in(x, "y");
        int z = Edges.in(x, "z");
        // the links of the rule and of the reckoning, while each class has but one node
        x.round();
        int[][] facts = {{v, y}, {y, z}, {high, product}, {five, last}};
        boolean[] told = new boolean[4];
        int rest = order;
        for (int left = 4; left > 0; left--) {
            int skip = rest % left;
            rest /= left;
            for (int i = 0; i < 4; i++) {
                if (!told[i] && skip-- == 0) {
                    told[i] = true;
                    boolean isBack = (order + i) % 2 == 0;
                    x.join(facts[i][isBack ? 1 : 0], facts[i][isBack ? 0 : 1]);
                }
            }
            if (left == 2) {
                x.rebuild();
            }
        }
        x.rebuild();
        int[] due = {rule, 100, 100, 100, 100, 100, 101, 100};
        Edges.due(due.length, x.why(first, last));
        Edges.due(due.length, x.why(last, first));
        for (int i = 0; i < due.length; i++) {
            Edges.due(due[i], x.whyAt(first, last, i));
            Edges.due(due[due.length - 1 - i], x.whyAt(last, first, i));
        }
        Edges.due(4, x.why(low, high));
        Edges.refused(x, Edges.NO_SUCH, () -> x.whyAt(last, first, due.length));
    }

    private static void pushes() {
        Edges.at("Promise 43: push");
        Edges.edge("Returns how many are kept.", () -> {
            SaturnalGraph x = new SaturnalGraph();
            Edges.due(1, x.push());
            Edges.due(2, x.push());
            Edges.due(0, x.pop());
            Edges.due(2, x.push());
            Edges.due(3, x.push());
        });
        Edges.edge("Keeps the graph, the bans, limits and counts of rules and rounds, and which terms were put in", () -> {
            SaturnalGraph x = new SaturnalGraph();
            int rule = Edges.rule(x, "fa=fa");
            int other = Edges.rule(x, "gab=b");
            int g = Edges.in(x, "g*23ffffu");
            int u = Edges.in(x, "u");
            int v = Edges.term(x, "v");
            int one = Edges.term(x, "1");
            int fv = Edges.term(x, "fv");
            x.setLimit(rule, 3);
            x.round();
            x.setLimit(other, 17);
            x.put(v);
            Edges.fact(x, "w", "gw2");
            Edges.fact(x, "x", "gx2");
            Edges.fact(x, "w", "x");
            x.rebuild();
            Edges.fact(x, "gw2", "ffu");
            String before = Edges.look(x);
            Edges.due(1, x.banned(rule));
            Edges.due(1, x.applied(other));
            Edges.due(true, x.isDue());
            Edges.due(15, x.nodes());
            x.push();
            Edges.due(before, Edges.look(x));
            x.setLimit(rule, 3);
            Edges.due('r', x.saturate(3));
            x.put(one);
            x.put(fv);
            x.join(u, v);
            x.join(one, v);
            x.put(g);
            // turns the links round
            x.join(x.terms() - 5, one);
            x.round();
            x.setLimit(other, 1);
            Edges.due(false, before.equals(Edges.look(x)));
            Edges.due(15, x.pop());
            Edges.due(before, Edges.look(x));
            // how often it was banned, too: one round, and then two
            x.setLimit(rule, 1);
            x.round();
            x.round();
            Edges.due(2, x.banned(rule));
        });
        Edges.edge("Throws `IllegalStateException` if 3 are kept", () -> {
            SaturnalGraph x = withRules(1);
            x.push();
            x.push();
            Edges.due(3, x.push());
            Edges.refused(x, Edges.STATE, x::push);
            x.pop();
            Edges.due(3, x.push());
            Edges.refused(x, Edges.STATE, x::push);
        });
    }

    /** Links of a rule, of facts and of congruence, one end of which is joined with another term behind push(). */
    private static void keepChains(int end) {
        SaturnalGraph x = new SaturnalGraph();
        Edges.rule(x, "fa=a");
        int low = Edges.in(x, "guu");
        int f = Edges.in(x, "fgvv");
        int[] ends = {low, f, f - 1, Edges.in(x, "w"), Edges.in(x, "~w"), Edges.in(x, "y")};
        x.round();
        x.join(low - 1, f - 2);
        x.join(ends[3], low);
        x.join(ends[4], f);
        x.join(ends[5], ends[3]);
        x.rebuild();
        int out = Edges.term(x, "z");
        String before = tellChains(x, ends);
        x.push();
        x.put(out);
        x.join(ends[end], out);
        Edges.due(before, tellChains(x, ends));
        x.join(out, ends[end]);
        x.pop();
        Edges.due(before, tellChains(x, ends));
    }

    private static String tellChains(SaturnalGraph x, int[] ends) {
        StringBuilder s = new StringBuilder();
        for (int from : ends) {
            for (int to : ends) {
                for (int i = 0; i < x.why(from, to); i++) {
                    s.append(x.whyAt(from, to, i)).append(' ');
                }
                s.append('/');
            }
        }
        return s.toString();
    }

    private static void pops() {
        Edges.at("Promise 44: pop");
        Edges.edge("Brings back what was kept last, which is gone then", () -> {
            SaturnalGraph x = new SaturnalGraph();
            x.push();
            Edges.in(x, "u");
            x.push();
            Edges.in(x, "guv");
            x.push();
            Edges.in(x, "w");
            Edges.due(3, x.pop());
            Edges.due(1, x.pop());
            Edges.due(0, x.pop());
            Edges.due(0, x.classes());
            Edges.refused(x, Edges.STATE, x::pop);
        });
        Edges.edge("Brings back what was kept last", () -> {
            // what rides on classes
            SaturnalGraph x = new SaturnalGraph();
            int u = Edges.in(x, "u");
            int five = Edges.term(x, "5");
            x.push();
            x.put(five);
            x.join(u, five);
            Edges.due(5, x.constant(0));
            Edges.due(0, x.free(0));
            x.pop();
            Edges.refused(x, Edges.NO_SUCH, () -> x.constant(0));
            Edges.due(1, x.free(0));
            Edges.due(0.0f, x.constantShare());
            // whether rebuilding is due, and how the last round ended, are as they were
            SaturnalGraph y = growing();
            y.setNodes(10);
            y.rebuild();
            y.push();
            Edges.due('n', y.saturate(20));
            Edges.in(y, "u");
            y.setNodes(11);
            Edges.in(y, "v");
            Edges.due(true, y.isDue());
            y.push();
            y.setNodes(300);
            y.round();
            Edges.due(false, y.isSpent());
            y.pop();
            Edges.due(true, y.isDue());
            Edges.due(true, y.isSpent());
            y.pop();
            Edges.due(false, y.isDue());
            Edges.due(false, y.isSpent());
            Edges.due(1, y.matches(0));
            // the chains, which other links turned round
            for (int end = 0; end < 6; end++) {
                keepChains(end);
            }
        });
        Edges.edge("terms, rules, costs and the limit of nodes stay", () -> {
            SaturnalGraph x = withRules(1);
            x.push();
            int term = Edges.term(x, "v");
            Edges.rule(x, "~a=a");
            x.setCost('f', 7);
            x.setNodes(10);
            Edges.due(2, x.pop());
            Edges.due(term + 4, x.terms());
            Edges.due(0, x.banned(1));
            Edges.due(7, x.setCost('f', 7));
            Edges.due(10, x.setNodes(11));
            // more nodes than the limit come back
            SaturnalGraph y = new SaturnalGraph();
            Edges.in(y, "f~f~f~f~f~f~u");
            y.push();
            y.setNodes(10);
            Edges.due(13, y.pop());
            int more = Edges.term(y, "v");
            Edges.refused(y, Edges.STATE, () -> y.put(more));
        });
        Edges.edge("Rules that were added since have none of it: not banned, the limit 20, not applied.", () -> {
            SaturnalGraph x = new SaturnalGraph();
            Edges.in(x, "fffu");
            x.push();
            int banned = Edges.rule(x, "fa=fa");
            int applied = Edges.rule(x, "fa=fa");
            x.setLimit(banned, 1);
            x.setLimit(applied, 3);
            x.round();
            Edges.due(1, x.banned(banned));
            Edges.due(3, x.applied(applied));
            x.pop();
            Edges.due(0, x.banned(banned));
            Edges.due(0, x.applied(applied));
            Edges.due(20, x.setLimit(banned, 1));
            Edges.due(20, x.setLimit(applied, 20));
            // also how often it was banned
            x.round();
            Edges.due(1, x.banned(banned));
        });
        Edges.edge("Returns the number of nodes then.", () -> {
            SaturnalGraph x = new SaturnalGraph();
            x.push();
            Edges.in(x, "guv");
            Edges.due(0, x.pop());
            Edges.due(0, x.nodes());
            Edges.in(x, "guv");
            x.push();
            Edges.due(3, x.pop());
        });
        Edges.edge("Throws `IllegalStateException` if none is kept", () -> {
            SaturnalGraph x = withRules(1);
            Edges.refused(x, Edges.STATE, x::pop);
            x.push();
            x.pop();
            Edges.refused(x, Edges.STATE, x::pop);
        });
    }

    private static void sums() {
        Edges.at("Promise 45: sum");
        Edges.edge("Returns the sum of the costs of all classes.", () -> {
            SaturnalGraph x = new SaturnalGraph();
            Edges.due(0L, x.sum());
            Edges.in(x, "guv");
            Edges.due(5L, x.sum());
            Edges.fact(x, "guv", "w");
            Edges.due(3L, x.sum());
            // 1000000 for each that is too dear
            SaturnalGraph y = dear();
            long due = 0;
            int cost = 1;
            for (int i = 0; i <= 14; i++) {
                due += Math.min(1000000, cost);
                cost = 2 * cost + 99;
            }
            Edges.due(due + 2, y.sum());
        });
        Edges.at("Promise 46: constantShare");
        Edges.edge("Returns their number divided by that of all, both converted to float.", () -> {
            SaturnalGraph x = new SaturnalGraph();
            Edges.in(x, "u");
            Edges.due(0.0f, x.constantShare());
            Edges.in(x, "5");
            Edges.due(0.5f, x.constantShare());
            Edges.in(x, "v");
            Edges.due(1.0f / 3.0f, x.constantShare());
            Edges.in(x, "+55");
            Edges.in(x, "w");
            Edges.in(x, "x");
            Edges.in(x, "y");
            Edges.due(2.0f / 7.0f, x.constantShare());
            SaturnalGraph y = new SaturnalGraph();
            Edges.fact(y, "1", "2");
            Edges.due(1.0f, y.constantShare());
        });
        Edges.edge("Throws `ArithmeticException` if there are none", () -> {
            SaturnalGraph x = new SaturnalGraph();
            Edges.refused(x, Edges.ARITHMETIC, x::constantShare);
            x.push();
            Edges.in(x, "u");
            Edges.due(0.0f, x.constantShare());
            x.pop();
            Edges.refused(x, Edges.ARITHMETIC, x::constantShare);
        });
        Edges.at("Promise 47: meanNodes");
        Edges.edge("Returns the number of nodes divided by that of classes, both converted to double.", () -> {
            SaturnalGraph x = new SaturnalGraph();
            Edges.in(x, "u");
            Edges.due(1.0, x.meanNodes());
            Edges.fact(x, "u", "v");
            Edges.due(2.0, x.meanNodes());
            Edges.in(x, "w");
            Edges.due(1.5, x.meanNodes());
            Edges.fact(x, "x", "w");
            Edges.in(x, "y");
            Edges.due(5.0 / 3.0, x.meanNodes());
        });
        Edges.edge("Throws `ArithmeticException` if there are none", () -> {
            SaturnalGraph x = new SaturnalGraph();
            Edges.refused(x, Edges.ARITHMETIC, x::meanNodes);
        });
        Edges.at("Promise 48: isSound");
        Edges.edge("if rebuilding is not due, no two alike nodes are in different classes", () -> {
            SaturnalGraph x = new SaturnalGraph();
            Edges.due(true, x.isSound());
            Edges.in(x, "fu");
            Edges.in(x, "fv");
            Edges.fact(x, "u", "v");
            Edges.due(true, x.isDue());
            Edges.due(3, x.classes());
            Edges.due(true, x.isSound());
            x.push();
            x.rebuild();
            Edges.due(true, x.isSound());
            x.pop();
            Edges.due(true, x.isDue());
            Edges.due(true, x.isSound());
        });
        Edges.edge("whether nodes are in one class just if links lead from one to the other", () -> {
            SaturnalGraph x = growing();
            for (int i = 0; i < 15; i++) {
                x.round();
                Edges.fact(x, "" + i % 10, "" + (i * 7 + 3) % 10);
                Edges.due(true, x.isSound());
            }
            Edges.due(true, grown(300).isSound());
        });
        Edges.edge("whether the best term of each class costs what the class does", () -> {
            SaturnalGraph x = dear();
            Edges.due(true, x.isSound());
            x.setCost('g', 1);
            Edges.due(true, x.isSound());
            Edges.fact(x, "fu", "u");
            Edges.due(true, x.isSound());
        });
    }

    public static void main(String[] arguments) throws IOException {
        Edges.open();
        newObject();
        leaves();
        operators();
        termsAndValues();
        rules();
        limits();
        puts();
        joins();
        dues();
        nodes();
        riders();
        matching();
        rounds();
        counts();
        costs();
        chains();
        steps();
        pushes();
        pops();
        sums();
        Edges.requireThrows();
        Edges.end();
    }
}
