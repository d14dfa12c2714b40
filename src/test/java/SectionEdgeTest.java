import java.io.IOException;

/** The boundary cases that the sections ahead of the promises name, a test for each sentence. */
public final class SectionEdgeTest {
    private static final int LEAST = Integer.MIN_VALUE;
    private static final int MOST = Integer.MAX_VALUE;

    private static void calls() {
        Edges.at("What it is");
        Edges.edge("An object is used for at most 512 calls after it has been made", () -> {
            SaturnalGraph x = new SaturnalGraph();
            x.put(x.one('f', x.variable(0)));
            for (int i = 4; i < 512; i++) {
                Edges.due(0, x.round());
            }
            Edges.due(508, x.rounds());
        });
        Edges.edge("the cheapest term of a class is taken, and for each two terms that became one, the chain of rules "
                + "is told by which they did", () -> {
            SaturnalGraph x = new SaturnalGraph();
            int zero = Edges.rule(x, "+a0=a");
            int one = Edges.rule(x, "*a1=a");
            int dear = Edges.in(x, "+*u10");
            x.saturate(5);
            Edges.due(1, x.cost(x.put(dear)));
            Edges.due(0, x.best(x.put(dear)));
            int cheap = Edges.in(x, "u");
            Edges.due(2, x.why(dear, cheap));
            Edges.due(zero, x.whyAt(dear, cheap, 0));
            Edges.due(one, x.whyAt(dear, cheap, 1));
        });
    }

    private static void termNumbers() {
        Edges.at("Terms");
        Edges.edge("What is taken out is equal to what went in by the rules alone.", () -> {
            SaturnalGraph x = new SaturnalGraph();
            Edges.rule(x, "*a2=+aa");
            Edges.rule(x, "-ab=+a~b");
            Edges.rule(x, "*a+bc=+*ab*ac");
            Edges.rule(x, "fa=+*7a3");
            int term = Edges.in(x, "-*u+v2fg2v");
            x.saturate(6);
            int node = x.put(term);
            for (int i = -3; i < 4; i++) {
                Edges.due(x.value(term, i, MOST - i), x.bestValue(node, i, MOST - i));
            }
        });
        Edges.edge("At most 120 terms", () -> {
            for (int maker = 0; maker < 5; maker++) {
                SaturnalGraph x = Edges.withTerms(119);
                Edges.due(119, make(x, maker));
                Edges.due(120, x.terms());
                for (int other = 0; other < 5; other++) {
                    int next = other;
                    Edges.refused(x, Edges.STATE, () -> make(x, next));
                }
            }
        });
        Edges.edge("each of at most 400 numbers, variables, holes and operators", () -> {
            for (int kind = 0; kind < 3; kind++) {
                SaturnalGraph x = new SaturnalGraph();
                int leaf = kind == 0 ? x.number(7) : kind == 1 ? x.variable(3) : x.hole(2);
                int t = Edges.wrap(x, 'f', leaf, 49);
                t = x.two('g', t, t);
                int most = x.two('+', t, x.two('*', t, Edges.large(x, 196)));
                Edges.due(101 + 1 + 101 + 1 + 196, x.size(most));
                Edges.refused(x, Edges.STATE, () -> x.one('~', most));
                int more = Edges.large(x, 299);
                int part = t;
                Edges.refused(x, Edges.STATE, () -> x.two('-', part, more));
                Edges.refused(x, Edges.STATE, () -> x.two('-', more, part));
            }
        });
        Edges.edge("each as often as it stands there", () -> {
            SaturnalGraph x = new SaturnalGraph();
            int t = x.variable(0);
            for (int i = 0; i < 7; i++) {
                t = x.two('g', t, t);
            }
            int twice = t;
            Edges.due(8, x.terms());
            Edges.due(255, x.size(twice));
            Edges.refused(x, Edges.STATE, () -> x.two('g', twice, twice));
        });
        Edges.edge("are numbered from 0", () -> {
            SaturnalGraph x = new SaturnalGraph();
            for (int i = 0; i < 120; i++) {
                Edges.due(i, make(x, i % 5 < 3 || i > 0 ? i % 5 : 0));
            }
        });
    }

    /** A term of one of the five ways to make one. */
    private static int make(SaturnalGraph x, int maker) {
        switch (maker) {
            case 0: return x.number(1);
            case 1: return x.variable(1);
            case 2: return x.hole(1);
            case 3: return x.one('f', 0);
            default: return x.two('+', 0, 0);
        }
    }

    private static void termKinds() {
        Edges.at("Terms");
        Edges.edge("a number from -99 to 99", () -> {
            SaturnalGraph x = new SaturnalGraph();
            for (int value : new int[] {-99, -98, -1, 0, 1, 98, 99}) {
                Edges.due(value, x.value(x.number(value), 5, 5));
            }
            for (int value : new int[] {-100, 100, LEAST, MOST}) {
                Edges.refused(x, Edges.ARGUMENT, () -> x.number(value));
            }
        });
        Edges.edge("a variable 0 to 5", () -> {
            SaturnalGraph x = new SaturnalGraph();
            for (int i = 0; i < 6; i++) {
                Edges.due(i, x.variable(i));
                Edges.due(i, x.numberOf(x.put(i)));
            }
            for (int i : new int[] {-1, 6, LEAST, MOST}) {
                Edges.refused(x, Edges.ARGUMENT, () -> x.variable(i));
            }
        });
        Edges.edge("a hole 0 to 3", () -> {
            SaturnalGraph x = new SaturnalGraph();
            for (int i = 0; i < 4; i++) {
                Edges.due(i, x.hole(i));
            }
            for (int i : new int[] {-1, 4, LEAST, MOST}) {
                Edges.refused(x, Edges.ARGUMENT, () -> x.hole(i));
            }
        });
        Edges.edge("an operator of one term, '~' the contrary, 'f' a function", () -> {
            for (char c = 0; c < 300; c++) {
                SaturnalGraph x = Edges.withTerms(2);
                char sign = c;
                if (c == '~' || c == 'f') {
                    Edges.due(2, x.one(c, 1));
                    Edges.due(c == '~' ? -5 : 38, x.value(2, 0, 5));
                } else {
                    Edges.refused(x, Edges.ARGUMENT, () -> x.one(sign, 1));
                }
            }
        });
        Edges.edge("or of two, '+', '-', '*' or 'g', another function", () -> {
            for (char c = 0; c < 300; c++) {
                SaturnalGraph x = Edges.withTerms(2);
                x.number(9);
                char sign = c;
                if ("+-*g".indexOf(c) >= 0) {
                    Edges.due(3, x.two(c, 1, 2));
                    Edges.due(c == '+' ? 14 : c == '-' ? -4 : c == '*' ? 45 : 31 * 5 + 17 * 9, x.value(3, 0, 5));
                } else {
                    Edges.refused(x, Edges.ARGUMENT, () -> x.two(sign, 1, 2));
                }
            }
        });
        Edges.edge("Parts are terms with lower numbers.", () -> {
            SaturnalGraph x = Edges.withTerms(3);
            Edges.refused(x, Edges.INDEX, () -> x.one('f', 3));
            Edges.refused(x, Edges.INDEX, () -> x.two('g', 3, 0));
            Edges.refused(x, Edges.INDEX, () -> x.two('g', 0, 3));
            Edges.due(3, x.one('f', 2));
            Edges.due(4, x.two('g', 3, 3));
        });
    }

    private static void termValues() {
        Edges.at("Terms");
        Edges.edge("A term has a value for values of its variables, if it has no hole", () -> {
            SaturnalGraph x = new SaturnalGraph();
            int deep = Edges.term(x, "+u*v-2g~fx0");
            Edges.due(3 + 4 * (2 - 31 * -3), x.value(deep, 3, 4));
            for (String text : new String[] {"a", "fd", "+ua", "+au", "*f~bu", "gu+v-2~c"}) {
                int holed = Edges.term(x, text);
                Edges.refused(x, Edges.UNSUPPORTED, () -> x.value(holed, 3, 4));
            }
        });
        Edges.edge("with ints that wrap", () -> {
            SaturnalGraph x = new SaturnalGraph();
            Edges.due(LEAST, x.value(Edges.term(x, "~u"), LEAST, 0));
            Edges.due(-MOST, x.value(Edges.term(x, "~u"), MOST, 0));
            Edges.due(LEAST, x.value(Edges.term(x, "+uv"), MOST, 1));
            Edges.due(0, x.value(Edges.term(x, "+uv"), LEAST, LEAST));
            Edges.due(MOST, x.value(Edges.term(x, "-uv"), LEAST, 1));
            Edges.due(LEAST, x.value(Edges.term(x, "-uv"), 0, LEAST));
            Edges.due(0, x.value(Edges.term(x, "*uv"), 65536, 65536));
            Edges.due(LEAST, x.value(Edges.term(x, "*uv"), LEAST, -1));
            Edges.due(1, x.value(Edges.term(x, "*uv"), MOST, MOST));
        });
        Edges.edge("'f' of x is 7 x plus 3", () -> {
            SaturnalGraph x = new SaturnalGraph();
            int f = Edges.term(x, "fu");
            Edges.due(3, x.value(f, 0, 0));
            Edges.due(-4, x.value(f, -1, 0));
            Edges.due(MOST - 3, x.value(f, MOST, 0));
            Edges.due(LEAST + 3, x.value(f, LEAST, 0));
        });
        Edges.edge("'g' of x and y is 31 x plus 17 y", () -> {
            SaturnalGraph x = new SaturnalGraph();
            int g = Edges.term(x, "guv");
            Edges.due(0, x.value(g, 0, 0));
            Edges.due(14, x.value(g, 1, -1));
            Edges.due(-48, x.value(g, MOST, MOST));
            Edges.due(LEAST, x.value(g, LEAST, 0));
            Edges.due(0, x.value(g, LEAST, LEAST));
        });
    }

    private static void graphNodes() {
        Edges.at("Graph");
        Edges.edge("Nodes are numbered from 0.", () -> {
            SaturnalGraph x = new SaturnalGraph();
            Edges.refused(x, Edges.INDEX, () -> x.kindOf(0));
            Edges.due(0, Edges.node(x, "u"));
            Edges.due(1, Edges.node(x, "v"));
            Edges.refused(x, Edges.INDEX, () -> x.kindOf(2));
        });
        Edges.edge("A node is a number, a variable, or an operator with nodes as its parts.", () -> {
            SaturnalGraph x = new SaturnalGraph();
            Edges.due(8, Edges.node(x, "~fg+-*3z000"));
            String kinds = "";
            for (int i = 0; i < x.nodes(); i++) {
                kinds += x.kindOf(i);
            }
            Edges.due("nv*n-+gf~", kinds);
            int hole = x.hole(0);
            Edges.refused(x, Edges.UNSUPPORTED, () -> x.put(hole));
        });
        Edges.edge("Each node is in a class; the number of a class is that of its lowest node.", () -> {
            SaturnalGraph x = new SaturnalGraph();
            for (String text : new String[] {"u", "v", "w", "x"}) {
                Edges.due(x.nodes(), x.classOf(Edges.node(x, text)));
            }
            Edges.fact(x, "x", "w");
            Edges.due(2, x.classOf(3));
            Edges.due(2, x.classOf(2));
            Edges.fact(x, "v", "x");
            for (int i = 1; i < 4; i++) {
                Edges.due(1, x.classOf(i));
            }
            Edges.due(0, x.classOf(0));
            Edges.fact(x, "w", "u");
            for (int i = 0; i < 4; i++) {
                Edges.due(0, x.classOf(i));
            }
        });
        Edges.edge("Two nodes are alike if they are the same number or variable, or have the same operator and parts in "
                + "the same classes.", () -> {
            SaturnalGraph x = new SaturnalGraph();
            Edges.due(0, Edges.node(x, "3"));
            Edges.due(1, Edges.node(x, "x"));
            Edges.due(0, Edges.node(x, "3"));
            Edges.due(1, Edges.node(x, "x"));
            Edges.due(2, Edges.node(x, "+3x"));
            Edges.due(3, Edges.node(x, "+x3"));
            Edges.due(4, Edges.node(x, "*3x"));
            Edges.due(5, Edges.node(x, "f3"));
            Edges.due(6, Edges.node(x, "~3"));
            Edges.due(7, Edges.node(x, "fx"));
            Edges.fact(x, "3", "x");
            Edges.due(5, Edges.node(x, "fx"));
            Edges.due(2, Edges.node(x, "+x3"));
            Edges.due(4, Edges.node(x, "*xx"));
            Edges.due(6, Edges.node(x, "~x"));
            Edges.due(1, Edges.node(x, "x"));
            Edges.due(8, x.nodes());
        });
        Edges.edge("The graph has a limit of nodes, 200 at first.", () -> {
            SaturnalGraph x = new SaturnalGraph();
            Edges.rule(x, "fa=fgaa");
            Edges.in(x, "fu");
            x.setLimit(0, 999);
            char end = 'r';
            for (int i = 0; i < 6 && end == 'r'; i++) {
                end = x.saturate(20);
            }
            Edges.due('n', end);
            Edges.due(200, x.nodes());
            int more = Edges.term(x, "v");
            Edges.refused(x, Edges.STATE, () -> x.put(more));
            Edges.due(200, x.setNodes(201));
            Edges.due(200, x.put(more));
        });
    }

    private static void graphPuts() {
        Edges.at("Graph");
        Edges.edge("To put a term into the graph is to put its parts into it, from the left to the right, and then itself",
                () -> {
            SaturnalGraph x = new SaturnalGraph();
            Edges.due(5, Edges.node(x, "g-vu~5"));
            String kinds = "";
            for (int i = 0; i < 6; i++) {
                kinds += x.kindOf(i);
            }
            Edges.due("vv-n~g", kinds);
            Edges.due(1, x.numberOf(0));
            Edges.due(0, x.numberOf(1));
        });
        Edges.edge("the lowest node that is alike to what it would be, with the classes of the nodes of its parts", () -> {
            SaturnalGraph x = new SaturnalGraph();
            Edges.due(1, Edges.node(x, "fv"));
            Edges.due(3, Edges.node(x, "fu"));
            Edges.due(5, Edges.node(x, "fw"));
            Edges.fact(x, "u", "w");
            Edges.due(3, Edges.node(x, "fw"));
            Edges.fact(x, "w", "v");
            Edges.due(1, Edges.node(x, "fw"));
            Edges.due(1, Edges.node(x, "fu"));
            Edges.due(6, x.nodes());
        });
        Edges.edge("a new node, whose parts are those with the numbers of these classes", () -> {
            SaturnalGraph x = new SaturnalGraph();
            Edges.fact(x, "u", "v");
            int fv = Edges.in(x, "fv");
            int fw = Edges.in(x, "fw");
            Edges.fact(x, "v", "w");
            x.rebuild();
            // from w by v to u, which is the part of the node for f of v
            Edges.due(2, x.why(fw, fv));
        });
        Edges.edge("in a class of its own", () -> {
            SaturnalGraph x = new SaturnalGraph();
            Edges.fact(x, "u", "v");
            int node = Edges.node(x, "guv");
            Edges.due(2, node);
            Edges.due(2, x.classOf(node));
            Edges.due(1, x.nodesIn(node));
            Edges.due(2, x.classes());
        });
        Edges.edge("A term was put in if put() was called for it, or for one of which it is a part, over any number of parts",
                () -> {
            SaturnalGraph x = new SaturnalGraph();
            int leaf = x.variable(0);
            int top = Edges.wrap(x, 'f', leaf, 60);
            int same = x.variable(0);
            x.put(top);
            for (int t = leaf; t <= top; t++) {
                Edges.due(true, x.areSame(t, t));
            }
            Edges.refused(x, Edges.NO_SUCH, () -> x.areSame(leaf, same));
            // a rule puts in a node, not a term
            int rule = x.rule(Edges.wrap(x, '~', x.variable(1), 1), same, '-');
            Edges.in(x, "~v");
            x.round();
            Edges.due(1, x.applied(rule));
            Edges.refused(x, Edges.NO_SUCH, () -> x.areSame(same, leaf));
            int large = Edges.rule(x, "fa=g~v+wx");
            x.setLimit(large, 60);
            x.round();
            Edges.due(60, x.applied(large));
            x.put(leaf);
            for (int t = 1; t < 8; t++) {
                int right = x.terms() - t;
                Edges.refused(x, Edges.NO_SUCH, () -> x.areSame(right, right));
            }
        });
        Edges.edge("its node is that of the last time", () -> {
            SaturnalGraph x = new SaturnalGraph();
            int fu = Edges.in(x, "fu");
            int u = fu - 1;
            int fv = Edges.in(x, "fv");
            int v = fv - 1;
            x.join(u, v);
            Edges.due(false, x.areSame(fu, fv));
            int fw = Edges.in(x, "fw");
            // as a part of what is put in
            x.put(x.two('g', fw, fv));
            Edges.due(true, x.areSame(fu, fv));
            Edges.due(0, x.why(fu, fv));
            x.join(fw - 1, u);
            Edges.due(false, x.areSame(fw, fu));
            x.put(fw);
            Edges.due(0, x.why(fw, fu));
        });
    }

    private static void links() {
        Edges.at("Links");
        Edges.edge("When two nodes of different classes are joined, both classes become one", () -> {
            SaturnalGraph x = new SaturnalGraph();
            Edges.fact(x, "w", "v");
            Edges.fact(x, "u", "x");
            Edges.due(2, x.classes());
            Edges.fact(x, "x", "w");
            Edges.due(1, x.classes());
            Edges.due(4, x.nodesIn(3));
            int again = Edges.in(x, "v");
            Edges.due(false, x.join(again, Edges.in(x, "u")));
            Edges.due(false, x.join(again, again));
            Edges.due(1, x.classes());
        });
        Edges.edge("a link is kept between these two nodes, with its reason: a rule, a fact, a reckoning, or congruence",
                () -> {
            SaturnalGraph x = new SaturnalGraph();
            Edges.rule(x, "*ab=a");
            int r = Edges.rule(x, "gab=b");
            x.setLimit(0, 1);
            int six = Edges.in(x, "+24");
            int u = Edges.in(x, "u");
            int v = Edges.in(x, "v");
            int w = Edges.in(x, "w");
            int g = Edges.in(x, "gxw");
            int fu = Edges.in(x, "fu");
            int fw = Edges.in(x, "fw");
            x.join(u, v);
            x.join(v, w);
            Edges.due(false, x.join(u, w));
            x.round();
            // no link from u to w
            Edges.due(2, x.why(u, w));
            Edges.due(100, x.whyAt(u, w, 1));
            int number = Edges.in(x, "6");
            Edges.due(1, x.why(six, number));
            Edges.due(101, x.whyAt(six, number, 0));
            // the hole is the node with the number of the class, u
            Edges.due(1, x.why(g, u));
            Edges.due(r, x.whyAt(g, u, 0));
            Edges.due(3, x.why(g, w));
            Edges.due(2, x.why(fu, fw));
            Edges.due(100, x.whyAt(fw, fu, 0));
        });
    }

    private static void rebuilding() {
        Edges.at("Rebuilding");
        Edges.edge("each one, if the lowest one alike to it is ahead of it and in another class, is joined with that one by "
                + "congruence", () -> {
            SaturnalGraph x = new SaturnalGraph();
            int fu = Edges.in(x, "fu");
            int fv = Edges.in(x, "fv");
            int fw = Edges.in(x, "fw");
            Edges.fact(x, "u", "v");
            Edges.fact(x, "v", "w");
            Edges.due(2, x.rebuild());
            // each with the lowest one: from w by v to u and on to v
            Edges.due(2, x.why(fw, fu));
            Edges.due(1, x.why(fv, fu));
            Edges.due(3, x.why(fw, fv));
            SaturnalGraph y = new SaturnalGraph();
            Edges.fact(y, "fu", "fv");
            Edges.fact(y, "u", "v");
            Edges.due(0, y.rebuild());
            Edges.due(false, y.isDue());
            Edges.due(0, new SaturnalGraph().rebuild());
        });
        Edges.edge("this is done again until nothing is joined", () -> {
            SaturnalGraph x = new SaturnalGraph();
            // the joins go down from higher nodes to lower ones, one in each turn
            int[] fs = {Edges.in(x, "fu"), Edges.in(x, "fv")};
            int[] gs = {Edges.in(x, "~w"), Edges.in(x, "~x")};
            int[] hs = {Edges.in(x, "fy"), Edges.in(x, "fz")};
            x.join(Edges.in(x, "u"), gs[0]);
            x.join(Edges.in(x, "v"), gs[1]);
            x.join(Edges.in(x, "w"), hs[0]);
            x.join(Edges.in(x, "x"), hs[1]);
            Edges.fact(x, "y", "z");
            Edges.due(3, x.rebuild());
            Edges.due(true, x.areSame(fs[0], fs[1]));
            Edges.due(0, x.rebuild());
        });
        Edges.edge("by rising numbers of classes", () -> {
            // room for one number only: the lower class has it
            SaturnalGraph x = crowded("*23", "+23");
            Edges.due(1, x.rebuild());
            Edges.due(11, x.nodes());
            Edges.due(6, x.numberOf(10));
            Edges.due(x.classOf(10), x.classOf(8));
            SaturnalGraph y = crowded("+23", "*23");
            Edges.due(1, y.rebuild());
            Edges.due(5, y.numberOf(10));
        });
        Edges.edge("for which no number with it is among its nodes", () -> {
            SaturnalGraph x = new SaturnalGraph();
            Edges.in(x, "5");
            Edges.due(0, x.rebuild());
            Edges.fact(x, "5", "+23");
            Edges.due(0, x.rebuild());
            Edges.due(4, x.nodes());
            // another number is among them, but the constant is that of the sum
            SaturnalGraph y = new SaturnalGraph();
            Edges.fact(y, "+11", "3");
            Edges.due(1, y.rebuild());
            Edges.due(4, y.nodes());
            Edges.due(2, y.numberOf(3));
            Edges.due(1, y.classOf(3));
            Edges.due(1, y.clashes());
        });
        Edges.edge("this number is put into the graph, if it is there or there is room", () -> {
            SaturnalGraph x = crowded("+23", "-32");
            Edges.in(x, "u");
            x.setNodes(10);
            Edges.due(0, x.rebuild());
            Edges.due(false, x.isDue());
            Edges.due(5, x.constant(8));
            Edges.due(1, x.nodesIn(8));
            x.setNodes(11);
            Edges.due(1, x.rebuild());
            Edges.due(5, x.numberOf(10));
            Edges.due(1, x.nodesIn(9));
            x.setNodes(10);
            // the number is there: no room is needed, even beyond the limit
            Edges.fact(x, "u", "v");
            x.setNodes(13);
            Edges.in(x, "1");
            x.setNodes(10);
            Edges.due(1, x.rebuild());
            Edges.due(9, x.classOf(11));
            Edges.due(0, x.rebuild());
        });
        Edges.edge("joined with the node whose number the class has, by a reckoning", () -> {
            SaturnalGraph x = new SaturnalGraph();
            Edges.fact(x, "u", "*23");
            int six = Edges.in(x, "6");
            int u = Edges.in(x, "u");
            int product = Edges.in(x, "*23");
            Edges.due(1, x.rebuild());
            Edges.due(1, x.why(six, u));
            Edges.due(2, x.why(six, product));
            Edges.due(101, x.whyAt(six, product, 0));
            Edges.due(100, x.whyAt(six, product, 1));
        });
        Edges.edge("If something was joined so, all is done again.", () -> {
            SaturnalGraph x = new SaturnalGraph();
            // 2 * 3 is 6; then g and g are alike; then ~g is known to be that of 4, and -4 is put in
            Edges.in(x, "g6u");
            Edges.fact(x, "g*23u", "4");
            Edges.in(x, "~g6u");
            Edges.due(3, x.rebuild());
            Edges.due(-4, x.constant(Edges.node(x, "~g6u")));
            Edges.due(-4, x.numberOf(x.nodes() - 1));
            Edges.due(0, x.rebuild());
        });
    }

    /** Ten nodes: 2, 3, six variables, and two terms of 2 and 3; room for one more. */
    private static SaturnalGraph crowded(String first, String second) {
        SaturnalGraph x = new SaturnalGraph();
        x.setNodes(11);
        for (String text : "2 3 u v w x y z".split(" ")) {
            Edges.in(x, text);
        }
        Edges.in(x, first);
        Edges.in(x, second);
        Edges.due(10, x.nodes());
        return x;
    }

    private static void constants() {
        Edges.at("Constants");
        Edges.edge("A number has itself.", () -> {
            SaturnalGraph x = new SaturnalGraph();
            Edges.due(-99, x.constant(x.put(x.number(-99))));
            Edges.due(99, x.constant(x.put(x.number(99))));
            Edges.due(0, x.constant(Edges.node(x, "0")));
            Edges.due(true, x.isDue());
            x.rebuild();
            Edges.due(3, x.nodes());
            int v = Edges.node(x, "v");
            Edges.refused(x, Edges.NO_SUCH, () -> x.constant(v));
        });
        Edges.edge("one without a constant gets that of the first one of its nodes, by rising numbers", () -> {
            SaturnalGraph low = new SaturnalGraph();
            Edges.fact(low, "3", "+11");
            Edges.due(3, low.constant(0));
            SaturnalGraph high = new SaturnalGraph();
            Edges.fact(high, "+11", "3");
            Edges.due(2, high.constant(2));
            SaturnalGraph both = new SaturnalGraph();
            Edges.fact(both, "4", "3");
            Edges.due(4, both.constant(1));
            // once it has one it keeps it: the parts of the lower node come later
            SaturnalGraph late = new SaturnalGraph();
            Edges.in(late, "u");
            Edges.fact(late, "u", "+vw");
            Edges.fact(late, "u", "9");
            Edges.fact(late, "v", "5");
            Edges.fact(late, "w", "5");
            Edges.due(3, late.put(Edges.term(late, "+vw")));
            Edges.due(9, late.constant(0));
            Edges.due(1, late.clashes());
        });
        Edges.edge("'~', '+', '-' or '*' whose parts' classes all have one", () -> {
            SaturnalGraph x = new SaturnalGraph();
            Edges.due(-5, x.constant(Edges.node(x, "~5")));
            Edges.due(7, x.constant(Edges.node(x, "+52")));
            Edges.due(3, x.constant(Edges.node(x, "-52")));
            Edges.due(10, x.constant(Edges.node(x, "*52")));
            for (String text : "f5 g52 *0u *u0 +u0 -uu ~u +5f5 *f00".split(" ")) {
                int node = Edges.node(x, text);
                Edges.refused(x, Edges.NO_SUCH, () -> x.constant(node));
            }
            Edges.fact(x, "g52", "8");
            Edges.due(-8, x.constant(Edges.node(x, "~g52")));
        });
        Edges.edge("reckoned with these, as ints wrap", () -> {
            SaturnalGraph x = new SaturnalGraph();
            int half = x.number(2);
            for (int i = 0; i < 4; i++) {
                half = x.two('*', half, half);
            }
            int least = x.two('*', half, x.two('*', x.number(64), x.two('*', x.number(64), x.number(8))));
            int node = x.put(least);
            Edges.due(LEAST, x.constant(node));
            x.rebuild();
            Edges.due(LEAST, x.numberOf(x.nodes() - 1));
            int contrary = x.one('~', least);
            Edges.due(LEAST, x.constant(x.put(contrary)));
            Edges.due(1, x.rebuild());
            Edges.due(true, x.areSame(contrary, least));
            Edges.due(MOST, x.constant(x.put(x.two('-', least, x.number(1)))));
            Edges.due(0, x.constant(x.put(x.two('+', least, least))));
            Edges.due(0, x.constant(x.put(x.two('*', half, half))));
        });
        Edges.edge("this is done again until no class gets one", () -> {
            SaturnalGraph x = new SaturnalGraph();
            for (String text : "u v w x y z".split(" ")) {
                Edges.in(x, text);
            }
            // each class waits for the next one
            Edges.fact(x, "u", "~v");
            Edges.fact(x, "v", "~w");
            Edges.fact(x, "w", "~x");
            Edges.fact(x, "x", "~y");
            Edges.fact(x, "y", "~z");
            Edges.refused(x, Edges.NO_SUCH, () -> x.constant(0));
            Edges.fact(x, "z", "7");
            for (int i = 0; i < 6; i++) {
                Edges.due(i % 2 == 1 ? 7 : -7, x.constant(i));
            }
            // one that waits for itself has none
            SaturnalGraph y = new SaturnalGraph();
            Edges.fact(y, "u", "~u");
            Edges.refused(y, Edges.NO_SUCH, () -> y.constant(0));
        });
        Edges.edge("A class is a clash if two of its nodes have unlike numbers so.", () -> {
            SaturnalGraph x = new SaturnalGraph();
            Edges.due(0, x.clashes());
            Edges.fact(x, "5", "+23");
            Edges.due(0, x.clashes());
            Edges.fact(x, "5", "f3");
            Edges.fact(x, "5", "g33");
            Edges.due(0, x.clashes());
            Edges.fact(x, "5", "-33");
            Edges.due(1, x.clashes());
            Edges.fact(x, "5", "9");
            Edges.due(1, x.clashes());
            Edges.fact(x, "2", "3");
            Edges.due(2, x.clashes());
            Edges.fact(x, "2", "5");
            Edges.due(1, x.clashes());
        });
    }

    private static void freeVariables() {
        Edges.at("Free variables");
        Edges.edge("as many as can be such that they are those that are free in each of its nodes", () -> {
            SaturnalGraph x = new SaturnalGraph();
            // in both, and in itself
            Edges.fact(x, "guv", "fguv");
            Edges.due(3, x.free(Edges.node(x, "guv")));
            Edges.fact(x, "guv", "gvw");
            Edges.due(2, x.free(Edges.node(x, "guv")));
            Edges.fact(x, "x", "fy");
            Edges.due(0, x.free(Edges.node(x, "x")));
            // two classes that are parts of each other
            SaturnalGraph y = new SaturnalGraph();
            Edges.fact(y, "u", "f~u");
            Edges.due(1, y.free(0));
            Edges.due(1, y.free(Edges.node(y, "~u")));
            Edges.fact(y, "~u", "v");
            Edges.due(0, y.free(0));
        });
        Edges.edge("in a variable itself", () -> {
            SaturnalGraph x = new SaturnalGraph();
            for (int i = 0; i < 6; i++) {
                Edges.due(1 << i, x.free(x.put(x.variable(i))));
            }
        });
        Edges.edge("in a number none", () -> {
            SaturnalGraph x = new SaturnalGraph();
            Edges.due(0, x.free(Edges.node(x, "7")));
            Edges.due(0, x.free(Edges.node(x, "f7")));
            Edges.fact(x, "7", "u");
            Edges.due(0, x.free(Edges.node(x, "u")));
        });
        Edges.edge("in others those that are free in the class of a part", () -> {
            SaturnalGraph x = new SaturnalGraph();
            Edges.due(63, x.free(Edges.node(x, "g+uv*-wx+~yfz")));
            Edges.due(33, x.free(Edges.node(x, "*uz")));
            Edges.due(32, x.free(Edges.node(x, "+zz")));
            Edges.due(1, x.free(Edges.node(x, "-u3")));
            Edges.fact(x, "u", "v");
            Edges.due(0, x.free(Edges.node(x, "fu")));
        });
    }

    private static void ruleSides() {
        Edges.at("Rules");
        Edges.edge("At most 12 rules are numbered from 0", () -> {
            SaturnalGraph x = new SaturnalGraph();
            int left = Edges.term(x, "fa");
            for (int i = 0; i < 12; i++) {
                Edges.due(i, x.rule(left, 0, '-'));
            }
            Edges.refused(x, Edges.STATE, () -> x.rule(left, 0, '-'));
            Edges.due(0, x.banned(11));
            Edges.refused(x, Edges.INDEX, () -> x.banned(12));
        });
        Edges.edge("a left term with an operator, a right term", () -> {
            SaturnalGraph x = new SaturnalGraph();
            for (String text : "a d 0 u".split(" ")) {
                int left = Edges.term(x, text);
                int right = Edges.term(x, "0");
                Edges.refused(x, Edges.UNSUPPORTED, () -> x.rule(left, right, '-'));
            }
            for (String text : "fa=a fa=0 fa=u ~0=0 +uv=*vu g00=f1".split(" ")) {
                Edges.due(true, Edges.rule(x, text) >= 0);
            }
        });
        Edges.edge("each of at most 40 of these", () -> {
            SaturnalGraph x = new SaturnalGraph();
            int full = Edges.wrap(x, 'f', x.hole(0), 39);
            int tooLarge = x.one('~', full);
            int small = x.one('~', 0);
            Edges.due(40, x.size(full));
            Edges.due(0, x.rule(full, full, '-'));
            Edges.due(1, x.rule(small, full, '-'));
            Edges.due(2, x.rule(full, small, '-'));
            Edges.refused(x, Edges.UNSUPPORTED, () -> x.rule(tooLarge, small, '-'));
            Edges.refused(x, Edges.UNSUPPORTED, () -> x.rule(small, tooLarge, '-'));
            int twice = Edges.large(x, 41);
            Edges.refused(x, Edges.UNSUPPORTED, () -> x.rule(twice, small, '-'));
            // such rules are matched and applied
            Edges.in(x, "u");
            x.put(Edges.wrap(x, 'f', x.variable(0), 39));
            x.round();
            Edges.due(1, x.applied(0));
            Edges.due(0, x.applied(1));
            Edges.due(1, x.applied(2));
        });
        Edges.edge("whose holes are among those of the left one", () -> {
            SaturnalGraph x = new SaturnalGraph();
            int left = Edges.term(x, "gac");
            for (String text : "b d gab +cd f~b g+acf*1d".split(" ")) {
                int right = Edges.term(x, text);
                Edges.refused(x, Edges.UNSUPPORTED, () -> x.rule(left, right, '-'));
            }
            for (String text : "a c gca 0 +cf*ca".split(" ")) {
                Edges.due(true, x.rule(left, Edges.term(x, text), '-') >= 0);
            }
            int none = Edges.term(x, "f0");
            Edges.refused(x, Edges.UNSUPPORTED, () -> x.rule(none, 0, '-'));
        });
        Edges.edge("a condition on the class of the hole 0: '-' none, 'n' it has a constant, 'z' it has one other than 0",
                () -> {
            SaturnalGraph x = new SaturnalGraph();
            int none = Edges.rule(x, "fa=a", '-');
            int some = Edges.rule(x, "fa=a", 'n');
            int notZero = Edges.rule(x, "fa=a", 'z');
            int second = Edges.rule(x, "gba=a", 'z');
            // how many fit behind each: none, a constant, one other than 0
            String[] steps = {"fu 1 0 0", "f0 2 1 0", "f5 3 2 1", "f~1 4 3 2", "ffu 5 3 2", "f-33 5 3 2"};
            for (String step : steps) {
                String[] due = step.split(" ");
                Edges.in(x, due[0]);
                x.rebuild();
                Edges.due(Integer.parseInt(due[1]), x.matches(none));
                Edges.due(Integer.parseInt(due[2]), x.matches(some));
                Edges.due(Integer.parseInt(due[3]), x.matches(notZero));
            }
            // the hole 0 is the second part, whatever the first one is
            Edges.in(x, "g50");
            Edges.in(x, "g5u");
            x.rebuild();
            Edges.due(0, x.matches(second));
            Edges.in(x, "gu5");
            x.rebuild();
            Edges.due(1, x.matches(second));
        });
    }

    private static void ruleMatches() {
        Edges.at("Rules");
        Edges.edge("a hole, where it stands, is any class, the same one for the same hole", () -> {
            SaturnalGraph x = new SaturnalGraph();
            int same = Edges.rule(x, "gaa=a");
            int any = Edges.rule(x, "gab=a");
            int deep = Edges.rule(x, "gafa=a");
            Edges.in(x, "guu");
            Edges.in(x, "guv");
            Edges.in(x, "gufv");
            x.rebuild();
            Edges.due(1, x.matches(same));
            Edges.due(3, x.matches(any));
            Edges.due(0, x.matches(deep));
            Edges.fact(x, "u", "v");
            x.rebuild();
            Edges.due(1, x.matches(same));
            Edges.due(2, x.matches(any));
            Edges.due(1, x.matches(deep));
        });
        Edges.edge("other terms are matched by nodes of the class with the same number, variable or operator", () -> {
            SaturnalGraph x = new SaturnalGraph();
            int number = Edges.rule(x, "f3=0");
            int variable = Edges.rule(x, "fx=0");
            int operator = Edges.rule(x, "f~a=0");
            Edges.in(x, "f3");
            x.rebuild();
            Edges.due(1, x.matches(number));
            Edges.due(0, x.matches(variable));
            Edges.due(0, x.matches(operator));
            Edges.fact(x, "3", "x");
            Edges.fact(x, "3", "~u");
            x.rebuild();
            Edges.due(1, x.matches(number));
            Edges.due(1, x.matches(variable));
            Edges.due(1, x.matches(operator));
        });
        Edges.edge("whose parts' classes match its parts", () -> {
            SaturnalGraph x = new SaturnalGraph();
            int minus = Edges.rule(x, "-u~a=0");
            Edges.in(x, "-~vu");
            Edges.in(x, "-u~v");
            Edges.in(x, "+u~v");
            Edges.in(x, "-v~v");
            x.rebuild();
            Edges.due(1, x.matches(minus));
        });
        Edges.edge("Matches are found for classes by rising numbers", () -> {
            SaturnalGraph x = new SaturnalGraph();
            Edges.rule(x, "fa=*aa");
            Edges.in(x, "fu");
            Edges.in(x, "fv");
            Edges.in(x, "fw");
            // the node 5 is in the class 0 then
            Edges.fact(x, "u", "fw");
            x.round();
            Edges.due(4, x.part(6, 0));
            Edges.due(0, x.part(7, 0));
            Edges.due(2, x.part(8, 0));
        });
        Edges.edge("in a class by nodes by rising numbers, and so in parts from the left to the right", () -> {
            SaturnalGraph x = new SaturnalGraph();
            Edges.rule(x, "gfafb=*ab");
            Edges.in(x, "gfvfu");
            Edges.fact(x, "fv", "fu");
            x.round();
            String found = "";
            for (int i = 5; i < 9; i++) {
                found += x.part(i, 0) + "" + x.part(i, 1) + " ";
            }
            Edges.due("00 02 20 22 ", found);
        });
        Edges.edge("matches with the same class and holes are one, that which is found first", () -> {
            SaturnalGraph x = new SaturnalGraph();
            int r = Edges.rule(x, "fa=a");
            int fu = Edges.in(x, "fu");
            int fv = Edges.in(x, "fv");
            Edges.fact(x, "u", "v");
            x.rebuild();
            Edges.due(1, x.matches(r));
            x.round();
            Edges.due(1, x.applied(r));
            // by the node 1: from f of v by congruence, a fact, to it
            Edges.due(1, x.why(fu, Edges.in(x, "u")));
            Edges.due(2, x.why(fv, Edges.in(x, "u")));
            // in one class by two ways, with the same hole
            SaturnalGraph y = new SaturnalGraph();
            int any = Edges.rule(y, "g~af~b=b");
            Edges.in(y, "g~uf~v");
            Edges.in(y, "g~uf~w");
            Edges.fact(y, "f~v", "f~w");
            y.rebuild();
            Edges.due(2, y.matches(any));
            Edges.fact(y, "v", "w");
            y.rebuild();
            Edges.due(1, y.matches(any));
        });
    }

    private static void roundBegins() {
        Edges.at("Rounds");
        Edges.edge("A round begins by rebuilding.", () -> {
            SaturnalGraph x = new SaturnalGraph();
            int r = Edges.rule(x, "gaa=a");
            int known = Edges.rule(x, "ga+bc=b", 'n');
            Edges.in(x, "gfufv");
            Edges.fact(x, "u", "v");
            Edges.in(x, "g*23+uw");
            Edges.due(2, x.round());
            Edges.due(1, x.applied(r));
            Edges.due(1, x.applied(known));
        });
        Edges.edge("by rising numbers, all matches are found", () -> {
            SaturnalGraph x = new SaturnalGraph();
            Edges.rule(x, "~a=+a1");
            Edges.rule(x, "fa=+a2");
            Edges.in(x, "fu");
            Edges.in(x, "~v");
            Edges.in(x, "~w");
            x.round();
            // the nodes of the rule 0 are ahead of that of the rule 1
            Edges.due('n', x.kindOf(6));
            Edges.due(2, x.part(7, 0));
            Edges.due(4, x.part(8, 0));
            Edges.due(2, x.numberOf(9));
            Edges.due(0, x.part(10, 0));
        });
        Edges.edge("of rules that are not banned and have a limit of at least as many", () -> {
            for (int many = 19; many < 22; many++) {
                SaturnalGraph x = new SaturnalGraph();
                int r = Edges.rule(x, "fa=~a");
                for (int i = 0; i < many; i++) {
                    x.put(x.one('f', x.number(i)));
                }
                Edges.due(many <= 20 ? many : 0, x.round());
                Edges.due(many <= 20 ? 0 : 1, x.banned(r));
                Edges.due(many <= 20 ? many : 0, x.applied(r));
            }
            for (int many = 19; many < 22; many++) {
                SaturnalGraph x = new SaturnalGraph();
                int r = Edges.rule(x, "gaa=~a");
                for (int i = 0; i < many; i++) {
                    int n = x.number(i);
                    x.put(x.two('g', n, n));
                }
                Edges.due(many <= 20 ? many : 0, x.round());
                Edges.due(many <= 20 ? 0 : 1, x.banned(r));
                Edges.due(many <= 20 ? many : 0, x.applied(r));
            }
            SaturnalGraph y = new SaturnalGraph();
            int r = Edges.rule(y, "fa=~a");
            int none = Edges.rule(y, "ga0=a");
            y.setLimit(r, 1);
            y.setLimit(none, 1);
            Edges.in(y, "fu");
            Edges.due(1, y.round());
            Edges.due(0, y.banned(r));
            Edges.due(0, y.banned(none));
        });
        Edges.edge("before one is applied", () -> {
            SaturnalGraph x = new SaturnalGraph();
            int first = Edges.rule(x, "fa=~a");
            int next = Edges.rule(x, "~a=ga0");
            int empty = Edges.rule(x, "gaa=a");
            Edges.in(x, "fu");
            Edges.due(1, x.round());
            Edges.due(1, x.applied(first));
            Edges.due(0, x.applied(next));
            // what would be too many only by what was applied is not held back
            x.setLimit(next, 1);
            Edges.in(x, "fv");
            Edges.due(2, x.round());
            Edges.due(0, x.banned(next));
            Edges.due(1, x.applied(next));
            Edges.due(0, x.applied(empty));
        });
    }

    /** A rule with so many matches, and nothing else. */
    private static SaturnalGraph matching(int many) {
        SaturnalGraph x = new SaturnalGraph();
        Edges.rule(x, "fa=~a");
        for (int i = 0; i < many; i++) {
            x.put(x.one('f', x.number(i)));
        }
        return x;
    }

    private static void bans() {
        Edges.at("Rounds");
        Edges.edge("A rule with more matches than its limit is not applied", () -> {
            SaturnalGraph x = matching(2);
            x.setLimit(0, 1);
            Edges.due(0, x.round());
            Edges.due(0, x.applied(0));
            Edges.due(4, x.nodes());
            Edges.due(2, x.matches(0));
        });
        Edges.edge("is banned for the next 1, 2, 4 and so on rounds, twice as many each time, whatever came between", () -> {
            SaturnalGraph x = matching(5);
            int banned = 1;
            for (int time = 0; time < 7; time++) {
                x.setLimit(0, 4);
                Edges.due(0, x.round());
                Edges.due(banned, x.banned(0));
                // not one round less
                x.setLimit(0, 5);
                for (int i = 1; i <= banned; i++) {
                    Edges.due(0, x.round());
                    Edges.due(banned - i, x.banned(0));
                }
                int before = x.applied(0);
                Edges.due(time == 0 ? 5 : 0, x.round());
                Edges.due(before + 5, x.applied(0));
                Edges.due(0, x.banned(0));
                banned *= 2;
            }
        });
        Edges.edge("its limit, 20 at first, is doubled", () -> {
            SaturnalGraph x = matching(50);
            Edges.due(0, x.round());
            Edges.due(40, x.setLimit(0, 40));
            Edges.due('r', x.saturate(2));
            Edges.due(80, x.setLimit(0, 80));
            Edges.due('r', x.saturate(2));
            Edges.due(0, x.banned(0));
            Edges.due(50, x.round());
            Edges.due(80, x.setLimit(0, 999));
        });
    }

    private static void roundApplies() {
        Edges.at("Rounds");
        Edges.edge("Then matches are applied, by rules and as they were found", () -> {
            SaturnalGraph x = new SaturnalGraph();
            int late = Edges.rule(x, "~a=*a1");
            int early = Edges.rule(x, "fa=-a1");
            Edges.in(x, "fu");
            Edges.in(x, "~v");
            x.setNodes(10);
            for (String text : "w x y 1".split(" ")) {
                Edges.in(x, text);
            }
            x.setNodes(10);
            // room for two: the product of v, then the difference of u
            Edges.due(8, x.nodes());
            Edges.due(2, x.round());
            Edges.due('*', x.kindOf(8));
            Edges.due('-', x.kindOf(9));
            Edges.due(false, x.isSpent());
            Edges.due(2, x.applied(late) + x.applied(early));
        });
        Edges.edge("a hole as the node whose number its class has then", () -> {
            SaturnalGraph x = new SaturnalGraph();
            int fv = Edges.rule(x, "fa=u");
            int hole = Edges.rule(x, "~a=a");
            Edges.in(x, "u");
            int f = Edges.in(x, "fv");
            int contrary = Edges.in(x, "~fv");
            Edges.due(2, x.round());
            // f of v is in the class 0 by then, so that its contrary is joined with the node 0
            Edges.due(1, x.why(contrary, Edges.in(x, "u")));
            Edges.due(2, x.why(contrary, f));
            Edges.due(hole, x.whyAt(contrary, f, 0));
            Edges.due(fv, x.whyAt(contrary, f, 1));
        });
        Edges.edge("joined with the node by which the left term was matched, by the rule", () -> {
            SaturnalGraph x = new SaturnalGraph();
            int r = Edges.rule(x, "fa=~a");
            int f = Edges.in(x, "fu");
            Edges.fact(x, "v", "fu");
            x.round();
            int contrary = Edges.in(x, "~u");
            Edges.due(1, x.why(contrary, f));
            Edges.due(r, x.whyAt(contrary, f, 0));
            Edges.due(2, x.why(contrary, Edges.in(x, "v")));
        });
        Edges.edge("What needs a new node beyond the limit ends the round at once, after what it put in already", () -> {
            SaturnalGraph x = new SaturnalGraph();
            Edges.rule(x, "fa=ggg~faa1a");
            int after = Edges.rule(x, "~a=a");
            Edges.in(x, "fu");
            Edges.in(x, "~v");
            for (String text : "w x y".split(" ")) {
                Edges.in(x, text);
            }
            x.setNodes(10);
            Edges.due(7, x.nodes());
            Edges.due(0, x.round());
            Edges.due(true, x.isSpent());
            Edges.due(10, x.nodes());
            // the contrary of f of u, its g and the number 1; what stands behind it has no room
            Edges.due('~', x.kindOf(7));
            Edges.due('g', x.kindOf(8));
            Edges.due('n', x.kindOf(9));
            Edges.due(0, x.applied(after));
            Edges.due(10, x.classes());
        });
        Edges.edge("its match does not count as applied", () -> {
            SaturnalGraph x = new SaturnalGraph();
            int r = Edges.rule(x, "fa=~a");
            for (String text : "fu fv fw fx".split(" ")) {
                Edges.in(x, text);
            }
            x.setNodes(10);
            Edges.due(2, x.round());
            Edges.due(2, x.applied(r));
            Edges.due(10, x.nodes());
            Edges.due(0, x.round());
            Edges.due(4, x.applied(r));
        });
        Edges.edge("Each round ends by rebuilding.", () -> {
            SaturnalGraph x = new SaturnalGraph();
            Edges.rule(x, "fa=a");
            int first = Edges.in(x, "~fu");
            int second = Edges.in(x, "~u");
            x.round();
            Edges.due(false, x.isDue());
            Edges.due(true, x.areSame(first, second));
            // also one that is ended by the limit
            SaturnalGraph y = new SaturnalGraph();
            Edges.rule(y, "fa=a");
            Edges.rule(y, "~a=ga~a");
            int one = Edges.in(y, "~fu");
            int other = Edges.in(y, "~u");
            for (String text : "v w x y z 1".split(" ")) {
                Edges.in(y, text);
            }
            y.setNodes(10);
            y.round();
            Edges.due(true, y.isSpent());
            Edges.due(false, y.isDue());
            Edges.due(true, y.areSame(one, other));
        });
    }

    private static void costs() {
        Edges.at("Costs");
        Edges.edge("has a cost, 1 at first, numbers and variables have 1 each", () -> {
            SaturnalGraph x = new SaturnalGraph();
            int all = Edges.node(x, "~fg+-*3z000");
            Edges.due(11, x.cost(all));
            for (char c : "~f+-*g".toCharArray()) {
                Edges.due(1, x.setCost(c, 99));
            }
            Edges.due(6 * 99 + 5, x.cost(all));
            Edges.due(1, x.cost(Edges.node(x, "3")));
            Edges.due(1, x.cost(Edges.node(x, "z")));
        });
        Edges.edge("The cost of a class is the least one of the costs of its nodes", () -> {
            SaturnalGraph x = new SaturnalGraph();
            Edges.fact(x, "f+uv", "~~g00");
            int node = Edges.node(x, "f+uv");
            Edges.due(4, x.cost(node));
            x.setCost('+', 2);
            Edges.due(5, x.cost(node));
            x.setCost('+', 3);
            Edges.due(5, x.cost(node));
            // a node whose part is its own class is never the least one
            Edges.fact(x, "~w", "f~w");
            Edges.due(2, x.cost(Edges.node(x, "f~w")));
        });
        Edges.edge("but 1000000 at most; a class with that has no best node and term", () -> {
            SaturnalGraph x = dear();
            int top = -1;
            for (int i = 0; i < x.nodes(); i++) {
                top = x.kindOf(i) == '-' ? i : top;
            }
            int node = top;
            x.setCost('-', 39);
            Edges.due(999998, x.cost(node));
            x.setCost('-', 40);
            Edges.due(999999, x.cost(node));
            Edges.due(node, x.best(node));
            Edges.due(14 * 60 + 1 + 6 * 99 + 40 + 1, x.sharedCost(node));
            long below = x.sum();
            x.setCost('-', 41);
            Edges.due(1000000, x.cost(node));
            Edges.refused(x, Edges.NO_SUCH, () -> x.best(node));
            Edges.refused(x, Edges.NO_SUCH, () -> x.sharedCost(node));
            Edges.refused(x, Edges.NO_SUCH, () -> x.bestValue(node, 1, 2));
            Edges.due(true, x.isSound());
            // one more for each of fifteen classes with a '-'
            Edges.due(below + 15, x.sum());
            x.setCost('-', 42);
            Edges.due(1000000, x.cost(node));
            x.setCost('g', 99);
            Edges.due(1000000, x.cost(x.part(node, 0)));
            Edges.due(1000000, x.cost(node));
        });
        Edges.edge("The best node is the lowest one with the cost.", () -> {
            SaturnalGraph x = new SaturnalGraph();
            Edges.fact(x, "guv", "+uv");
            Edges.fact(x, "+uv", "*uv");
            Edges.due(2, x.best(4));
            x.setCost('g', 2);
            Edges.due(3, x.best(2));
            x.setCost('+', 2);
            Edges.due(4, x.best(3));
            x.setCost('*', 2);
            Edges.due(2, x.best(4));
        });
        Edges.edge("The best term is that of best nodes throughout.", () -> {
            SaturnalGraph x = new SaturnalGraph();
            Edges.fact(x, "fu", "~v");
            Edges.fact(x, "u", "*23");
            Edges.fact(x, "v", "9");
            int node = Edges.node(x, "gfu~v");
            Edges.due(5, x.cost(node));
            Edges.due(31 * (7 * 10 + 3) + 17 * (7 * 10 + 3), x.bestValue(node, 10, 20));
            x.setCost('f', 2);
            Edges.due(48 * -20, x.bestValue(node, 10, 20));
            // best nodes whose parts have higher numbers than their classes
            for (String text : new String[] {"~v", "gvu", "guv"}) {
                SaturnalGraph y = new SaturnalGraph();
                y.setCost('*', 99);
                Edges.fact(y, "*uu", text);
                Edges.due(1, y.classOf(y.nodes() - 1));
                int due = text.equals("~v") ? -9 : text.equals("gvu") ? 31 * 9 + 17 * 4 : 31 * 4 + 17 * 9;
                Edges.due(due, y.bestValue(1, 4, 9));
                Edges.due(text.length(), y.sharedCost(1));
                Edges.due(true, y.isSound());
            }
        });
    }

    /** Doubled terms; with the costs of '~' 99 and 'g' 60 the dearest one with a '-' costs 999959 and that of '-'. */
    private static SaturnalGraph dear() {
        SaturnalGraph x = new SaturnalGraph();
        x.setNodes(300);
        x.setCost('g', 60);
        x.setCost('~', 99);
        Edges.rule(x, "fa=fgaa");
        Edges.in(x, "fu");
        Edges.due('r', x.saturate(14));
        Edges.rule(x, "fa=f-~~~~~~a0");
        x.round();
        return x;
    }

    private static void exceptions() {
        Edges.at("Exceptions");
        Edges.edge("A method that throws an exception changes nothing.", () -> {
            SaturnalGraph x = new SaturnalGraph();
            int r = Edges.rule(x, "fa=~a");
            int g = Edges.in(x, "gfuv");
            x.setNodes(10);
            x.rebuild();
            int large = Edges.term(x, "ggg12gg34v0");
            int out = x.terms();
            Edges.refused(x, Edges.STATE, () -> x.put(large));
            Edges.refused(x, Edges.INDEX, () -> x.put(out));
            Edges.refused(x, Edges.INDEX, () -> x.join(g, out));
            Edges.refused(x, Edges.NO_SUCH, () -> x.join(g, large));
            Edges.refused(x, Edges.ARGUMENT, () -> x.setLimit(r, 0));
            Edges.refused(x, Edges.ARGUMENT, () -> x.setNodes(0));
            Edges.refused(x, Edges.ARGUMENT, () -> x.setCost('f', 0));
            Edges.refused(x, Edges.ARGUMENT, () -> x.saturate(0));
            Edges.refused(x, Edges.STATE, x::pop);
            x.push();
            x.push();
            x.push();
            Edges.refused(x, Edges.STATE, x::push);
            x.pop();
            x.pop();
            Edges.due(4, x.pop());
            Edges.refused(x, Edges.STATE, x::pop);
        });
        Edges.edge("If several exceptions apply, the one that is listed first is thrown.", () -> {
            SaturnalGraph x = Edges.withTerms(120);
            Edges.refused(x, Edges.ARGUMENT, () -> x.number(100));
            Edges.refused(x, Edges.ARGUMENT, () -> x.variable(6));
            Edges.refused(x, Edges.ARGUMENT, () -> x.hole(4));
            Edges.refused(x, Edges.ARGUMENT, () -> x.one('+', 120));
            Edges.refused(x, Edges.INDEX, () -> x.one('f', 120));
            Edges.refused(x, Edges.ARGUMENT, () -> x.two('f', 120, 120));
            Edges.refused(x, Edges.INDEX, () -> x.two('+', 0, 120));
            Edges.refused(x, Edges.INDEX, () -> x.two('+', -1, 0));
            Edges.refused(x, Edges.INDEX, () -> x.rule(0, 120, '?'));
            Edges.refused(x, Edges.ARGUMENT, () -> x.rule(0, 0, '?'));
            Edges.refused(x, Edges.INDEX, () -> x.setLimit(0, 0));
            Edges.refused(x, Edges.INDEX, () -> x.join(0, 120));
            Edges.refused(x, Edges.INDEX, () -> x.areSame(120, 0));
            Edges.refused(x, Edges.INDEX, () -> x.why(0, 120));
            Edges.refused(x, Edges.INDEX, () -> x.whyAt(0, 120, -1));
            Edges.refused(x, Edges.NO_SUCH, () -> x.whyAt(0, 0, -1));
            Edges.refused(x, Edges.INDEX, () -> x.part(0, -1));
            x.put(0);
            Edges.refused(x, Edges.INDEX, () -> x.matches(0));
            Edges.refused(x, Edges.INDEX, () -> x.constant(1));
            Edges.refused(x, Edges.INDEX, () -> x.best(1));
            Edges.refused(x, Edges.INDEX, () -> x.numberOf(1));
        });
    }

    public static void main(String[] arguments) throws IOException {
        Edges.open();
        calls();
        termNumbers();
        termKinds();
        termValues();
        graphNodes();
        graphPuts();
        links();
        rebuilding();
        constants();
        freeVariables();
        ruleSides();
        ruleMatches();
        roundBegins();
        bans();
        roundApplies();
        costs();
        exceptions();
        for (String title : new String[] {"What it is", "Terms", "Graph", "Links", "Rebuilding", "Constants",
            "Free variables", "Rules", "Rounds", "Costs", "Exceptions"}) {
            Edges.requireAll(title);
        }
        Edges.end();
    }
}
