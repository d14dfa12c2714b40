import java.util.NoSuchElementException;

/** The promises of the document one by one: ordinary inputs, edges and wrong inputs. */
public final class PromiseTest {
    private interface Call {
        Object run();
    }

    private static final Class<?> INDEX = IndexOutOfBoundsException.class;
    private static final Class<?> ARGUMENT = IllegalArgumentException.class;
    private static final Class<?> STATE = IllegalStateException.class;
    private static final Class<?> UNSUPPORTED = UnsupportedOperationException.class;
    private static final Class<?> NO_SUCH = NoSuchElementException.class;
    private static final Class<?> ARITHMETIC = ArithmeticException.class;

    private static int checks = 0;
    private static int wrong = 0;
    private static int promise = 0;

    private static void due(Object want, Object got) {
        checks++;
        if (!want.equals(got)) {
            wrong++;
            StackTraceElement at = new Throwable().getStackTrace()[1];
            System.out.println("promise " + promise + ", line " + at.getLineNumber() + ": " + got + ", due is " + want);
        }
    }

    private static void thrown(Class<?> want, Call call) {
        checks++;
        Object got;
        try {
            got = call.run();
        } catch (RuntimeException e) {
            got = e.getClass();
        }
        if (!want.equals(got)) {
            wrong++;
            StackTraceElement at = new Throwable().getStackTrace()[1];
            System.out.println("promise " + promise + ", line " + at.getLineNumber() + ": " + got + ", due is " + want);
        }
    }

    /** A graph with 120 terms, the first of which is the number 0, all others variables. */
    private static SaturnalGraph full() {
        SaturnalGraph x = new SaturnalGraph();
        x.number(0);
        for (int i = 1; i < 120; i++) {
            x.variable(i % 6);
        }
        return x;
    }

    /** Doubles a term: its size becomes twice as large and one more. */
    private static int twice(SaturnalGraph x, char operator, int term, int times) {
        int t = term;
        for (int i = 0; i < times; i++) {
            t = x.two(operator, t, t);
        }
        return t;
    }

    private static void newObject() {
        SaturnalGraph x = new SaturnalGraph();
        due(0, x.terms());
        due(0, x.nodes());
        due(0, x.classes());
        due(0, x.rounds());
        due(false, x.isDue());
        due(false, x.isSpent());
        due(true, x.isSound());
        due(0, x.rebuild());
        due(0L, x.sum());
        due(0, x.clashes());
        due(200, x.setNodes(10));
        for (char c : "~f+-*g".toCharArray()) {
            due(1, x.setCost(c, 2));
        }
        thrown(INDEX, () -> x.banned(0));
        thrown(STATE, x::pop);
    }

    private static void leaves() {
        promise = 2;
        SaturnalGraph x = new SaturnalGraph();
        due(0, x.number(-99));
        due(1, x.number(99));
        due(2, x.number(99));
        due(-99, x.value(0, 5, 6));
        due(99, x.value(1, 5, 6));
        thrown(ARGUMENT, () -> x.number(100));
        thrown(ARGUMENT, () -> x.number(-100));
        thrown(ARGUMENT, () -> x.number(Integer.MIN_VALUE));
        due(3, x.terms());
        SaturnalGraph y = full();
        thrown(STATE, () -> y.number(1));
        thrown(ARGUMENT, () -> y.number(100));
        promise = 3;
        due(3, x.variable(0));
        due(4, x.variable(5));
        thrown(ARGUMENT, () -> x.variable(6));
        thrown(ARGUMENT, () -> x.variable(-1));
        thrown(STATE, () -> y.variable(5));
        thrown(ARGUMENT, () -> y.variable(6));
        promise = 4;
        due(5, x.hole(0));
        due(6, x.hole(3));
        thrown(ARGUMENT, () -> x.hole(4));
        thrown(ARGUMENT, () -> x.hole(-1));
        thrown(STATE, () -> y.hole(3));
        thrown(ARGUMENT, () -> y.hole(4));
        due(120, y.terms());
    }

    private static void operators() {
        promise = 5;
        SaturnalGraph x = new SaturnalGraph();
        x.variable(0);
        due(1, x.one('~', 0));
        due(2, x.one('f', 1));
        for (char c : "+-*gnvh!\u0000\uffff".toCharArray()) {
            thrown(ARGUMENT, () -> x.one(c, 0));
            thrown(ARGUMENT, () -> x.one(c, 99));
        }
        thrown(INDEX, () -> x.one('f', 3));
        thrown(INDEX, () -> x.one('f', -1));
        thrown(INDEX, () -> x.one('f', Integer.MAX_VALUE));
        SaturnalGraph y = full();
        thrown(STATE, () -> y.one('f', 0));
        thrown(INDEX, () -> y.one('f', 120));
        thrown(ARGUMENT, () -> y.one('+', 120));
        promise = 6;
        due(3, x.two('+', 0, 0));
        due(4, x.two('g', 2, 3));
        for (char c : "~fnvh! ".toCharArray()) {
            thrown(ARGUMENT, () -> x.two(c, 0, 0));
        }
        thrown(INDEX, () -> x.two('-', 0, 5));
        thrown(INDEX, () -> x.two('*', 5, 0));
        thrown(INDEX, () -> x.two('*', -1, -1));
        thrown(STATE, () -> y.two('+', 0, 0));
        thrown(INDEX, () -> y.two('+', 0, 120));
        // 255, 399, 400 and what lies beyond
        SaturnalGraph z = new SaturnalGraph();
        int large = twice(z, 'g', z.number(1), 7);
        due(255, z.size(large));
        int part = twice(z, '+', z.number(1), 6);
        due(127, z.size(part));
        thrown(STATE, () -> z.two('+', large, large));
        int more = z.two('+', large, part);
        due(383, z.size(more));
        int last = z.two('+', more, z.two('+', twice(z, '*', 0, 2), twice(z, '-', 0, 2)));
        due(399, z.size(last));
        int count = z.terms();
        thrown(STATE, () -> z.two('+', last, 0));
        promise = 5;
        int full = z.one('~', last);
        due(400, z.size(full));
        thrown(STATE, () -> z.one('~', full));
        due(count + 1, z.terms());
    }

    private static void termsAndValues() {
        promise = 7;
        SaturnalGraph x = new SaturnalGraph();
        due(0, x.terms());
        x.variable(0);
        due(1, x.terms());
        promise = 8;
        int sum = x.two('+', 0, x.one('f', 0));
        due(4, x.size(sum));
        due(9, x.size(x.two('*', sum, sum)));
        thrown(INDEX, () -> x.size(4));
        thrown(INDEX, () -> x.size(-1));
        promise = 9;
        int b = x.variable(1);
        int c = x.variable(2);
        int n = x.number(5);
        due(7, x.value(0, 7, 8));
        due(8, x.value(b, 7, 8));
        due(0, x.value(c, 7, 8));
        due(5, x.value(n, 7, 8));
        due(-7, x.value(x.one('~', 0), 7, 8));
        due(52, x.value(x.one('f', 0), 7, 8));
        due(15, x.value(x.two('+', 0, b), 7, 8));
        due(-1, x.value(x.two('-', 0, b), 7, 8));
        due(56, x.value(x.two('*', 0, b), 7, 8));
        due(31 * 7 + 17 * 8, x.value(x.two('g', 0, b), 7, 8));
        due(Integer.MIN_VALUE, x.value(x.two('+', 0, b), Integer.MAX_VALUE, 1));
        due(Integer.MIN_VALUE, x.value(x.one('~', 0), Integer.MIN_VALUE, 0));
        int h = x.hole(1);
        int withHole = x.two('+', 0, x.one('f', h));
        thrown(UNSUPPORTED, () -> x.value(withHole, 1, 2));
        thrown(UNSUPPORTED, () -> x.value(h, 1, 2));
        thrown(INDEX, () -> x.value(-1, 1, 2));
        thrown(INDEX, () -> x.value(x.terms(), 1, 2));
    }

    private static void rules() {
        promise = 10;
        SaturnalGraph x = new SaturnalGraph();
        int h0 = x.hole(0);
        int h1 = x.hole(1);
        int n = x.number(3);
        int left = x.two('+', h0, n);
        int other = x.two('+', h1, n);
        thrown(INDEX, () -> x.rule(99, left, 'q'));
        thrown(INDEX, () -> x.rule(left, -1, 'q'));
        thrown(ARGUMENT, () -> x.rule(h0, h1, 'q'));
        thrown(UNSUPPORTED, () -> x.rule(h0, h0, '-'));
        thrown(UNSUPPORTED, () -> x.rule(n, n, '-'));
        thrown(UNSUPPORTED, () -> x.rule(left, h1, '-'));
        thrown(UNSUPPORTED, () -> x.rule(left, other, '-'));
        thrown(UNSUPPORTED, () -> x.rule(other, n, 'n'));
        thrown(UNSUPPORTED, () -> x.rule(other, n, 'z'));
        due(0, x.rule(left, h0, '-'));
        due(1, x.rule(left, n, 'n'));
        due(2, x.rule(left, left, 'z'));
        due(3, x.rule(other, h1, '-'));
        int forty = n;
        for (int i = 1; i < 40; i++) {
            forty = x.one('~', forty);
        }
        int side = forty;
        due(40, x.size(side));
        due(4, x.rule(side, side, '-'));
        int tooLarge = x.one('~', side);
        thrown(UNSUPPORTED, () -> x.rule(tooLarge, n, '-'));
        thrown(UNSUPPORTED, () -> x.rule(left, tooLarge, '-'));
        for (int i = 5; i < 12; i++) {
            due(i, x.rule(left, h0, '-'));
        }
        thrown(STATE, () -> x.rule(left, h0, '-'));
        thrown(UNSUPPORTED, () -> x.rule(n, h0, '-'));
        thrown(ARGUMENT, () -> x.rule(n, h0, ' '));
    }

    private static void holdsAndLimits() {
        promise = 11;
        SaturnalGraph x = new SaturnalGraph();
        int h0 = x.hole(0);
        int h1 = x.hole(1);
        int h2 = x.hole(2);
        int v = x.variable(0);
        int ab = x.rule(x.two('-', h0, h1), x.two('-', h1, h0), '-');
        int twoHoles = x.rule(x.two('+', h0, h2), h0, '-');
        int withVariable = x.rule(x.two('+', h1, v), h1, '-');
        due(false, x.holds(ab, 3, 4));
        due(true, x.holds(ab, 4, 4));
        due(true, x.holds(twoHoles, 9, 8));
        due(true, x.holds(withVariable, 9, 8));
        thrown(INDEX, () -> x.holds(3, 0, 0));
        thrown(INDEX, () -> x.holds(-1, 0, 0));
        promise = 12;
        due(20, x.setLimit(0, 1));
        due(1, x.setLimit(0, 999));
        due(999, x.setLimit(0, 7));
        thrown(ARGUMENT, () -> x.setLimit(0, 0));
        thrown(ARGUMENT, () -> x.setLimit(0, 1000));
        thrown(INDEX, () -> x.setLimit(3, 0));
        thrown(INDEX, () -> x.setLimit(-1, 5));
        due(7, x.setLimit(0, 7));
        promise = 13;
        due(200, x.setNodes(10));
        due(10, x.setNodes(300));
        thrown(ARGUMENT, () -> x.setNodes(9));
        thrown(ARGUMENT, () -> x.setNodes(301));
        due(300, x.setNodes(200));
    }

    private static void puts() {
        promise = 14;
        SaturnalGraph x = new SaturnalGraph();
        int b = x.variable(1);
        int a = x.variable(0);
        int sum = x.two('+', a, b);
        int all = x.two('*', x.one('f', sum), x.one('~', a));
        // from the left to the right: a, b, a + b, f, ~, *
        due(5, x.put(all));
        due('v', x.kindOf(0));
        due(0, x.numberOf(0));
        due(1, x.numberOf(1));
        due('+', x.kindOf(2));
        due('f', x.kindOf(3));
        due('~', x.kindOf(4));
        due('*', x.kindOf(5));
        due(2, x.put(sum));
        due(0, x.put(x.variable(0)));
        int hole = x.hole(0);
        thrown(UNSUPPORTED, () -> x.put(hole));
        thrown(INDEX, () -> x.put(-1));
        thrown(INDEX, () -> x.put(x.terms()));
        due(6, x.nodes());
        // no room: nothing changes
        x.setNodes(10);
        x.rebuild();
        int chain = a;
        for (int i = 0; i < 6; i++) {
            chain = x.one('f', chain);
        }
        int five = chain;
        thrown(STATE, () -> x.put(five));
        due(6, x.nodes());
        due(false, x.isDue());
        thrown(NO_SUCH, () -> x.areSame(five, a));
        thrown(NO_SUCH, () -> x.areSame(five - 1, a));
        due(9, x.put(five - 2));
        due(10, x.nodes());
        due(5, x.put(all));
        thrown(STATE, () -> x.put(five - 1));
        // a part is the class that it is in now
        SaturnalGraph w = new SaturnalGraph();
        w.put(w.variable(0));
        w.put(w.variable(1));
        w.join(0, 1);
        due(2, w.put(w.one('~', 1)));
        due(2, w.put(w.one('~', 0)));
        due(3, w.put(w.two('g', 1, 1)));
        due(3, w.put(w.two('g', 0, 1)));
        due(4, w.nodes());
        // the node is that of the last time: the lowest alike one
        SaturnalGraph y = new SaturnalGraph();
        int p = y.variable(0);
        int q = y.variable(1);
        int fp = y.one('f', p);
        int fq = y.one('f', q);
        due(1, y.put(fp));
        due(3, y.put(fq));
        y.join(p, q);
        due(1, y.put(fq));
        due(true, y.areSame(fp, fq));
        due(4, y.classes() + 1);
        due(1, y.rebuild());
        due(2, y.classes());
    }

    private static void joins() {
        promise = 15;
        SaturnalGraph x = new SaturnalGraph();
        int a = x.variable(0);
        int b = x.variable(1);
        int c = x.variable(2);
        int fa = x.one('f', a);
        x.put(fa);
        x.put(b);
        thrown(NO_SUCH, () -> x.join(a, c));
        thrown(NO_SUCH, () -> x.join(c, a));
        thrown(INDEX, () -> x.join(c, 4));
        thrown(INDEX, () -> x.join(-1, c));
        x.rebuild();
        due(false, x.join(a, a));
        due(false, x.isDue());
        due(true, x.join(b, a));
        due(true, x.isDue());
        x.rebuild();
        due(false, x.join(a, b));
        due(false, x.isDue());
        due(0, x.classOf(2));
        promise = 16;
        due(true, x.areSame(a, b));
        due(false, x.areSame(a, fa));
        due(true, x.areSame(fa, fa));
        thrown(NO_SUCH, () -> x.areSame(a, c));
        thrown(NO_SUCH, () -> x.areSame(c, c));
        thrown(INDEX, () -> x.areSame(c, 99));
        promise = 17;
        due(false, x.isDue());
        x.put(fa);
        due(false, x.isDue());
        x.put(c);
        due(true, x.isDue());
        x.rebuild();
        due(false, x.isDue());
        x.join(c, a);
        due(true, x.isDue());
        x.round();
        due(false, x.isDue());
    }

    private static void rebuilds() {
        promise = 18;
        // congruence goes up: f f a and f f b
        SaturnalGraph x = new SaturnalGraph();
        int a = x.variable(0);
        int b = x.variable(1);
        int ffa = x.one('f', x.one('f', a));
        int ffb = x.one('f', x.one('f', b));
        x.put(ffa);
        x.put(ffb);
        x.join(a, b);
        due(false, x.areSame(ffa, ffb));
        due(2, x.rebuild());
        due(true, x.areSame(ffa, ffb));
        due(3, x.classes());
        due(0, x.rebuild());
        // what a higher node tells of lower ones is found when all is gone through again
        SaturnalGraph w = new SaturnalGraph();
        int[] v4 = {w.variable(0), w.variable(1), w.variable(2), w.variable(3)};
        int low = w.one('f', v4[0]);
        int alsoLow = w.one('f', v4[1]);
        int high = w.one('~', v4[2]);
        int alsoHigh = w.one('~', v4[3]);
        for (int t : new int[] {low, alsoLow, high, alsoHigh}) {
            w.put(t);
        }
        w.join(v4[0], high);
        w.join(v4[1], alsoHigh);
        w.join(v4[2], v4[3]);
        due(2, w.rebuild());
        due(true, w.areSame(low, alsoLow));
        due(3, w.classes());
        // a reckoning puts in a number and joins it
        SaturnalGraph y = new SaturnalGraph();
        int two = y.number(2);
        int six = y.two('*', two, y.number(3));
        y.put(six);
        due(1, y.rebuild());
        due(4, y.nodes());
        due(6, y.numberOf(3));
        due(2, y.classOf(3));
        // the number is there already, and what follows by congruence counts too
        int v = y.variable(0);
        int plain = y.number(6);
        y.put(y.two('g', six, v));
        y.put(y.two('g', plain, v));
        due(0, y.rebuild());
        // beyond the limit a number is put in only if it is there
        SaturnalGraph z = new SaturnalGraph();
        z.setNodes(10);
        int t = z.number(1);
        int u = z.number(2);
        z.put(t);
        z.put(u);
        for (int i = 3; i < 9; i++) {
            z.put(z.variable(i - 3));
        }
        int three = z.two('+', t, u);
        int minus = z.two('-', u, t);
        z.put(three);
        z.put(minus);
        due(10, z.nodes());
        due(1, z.rebuild());
        due(true, z.areSame(minus, t));
        due(3, z.constant(z.put(three)));
        due(1, z.nodesIn(z.put(three)));
        due(false, z.isDue());
        z.setNodes(11);
        due(1, z.rebuild());
        due(11, z.nodes());
        due(3, z.numberOf(10));
    }

    private static void nodesAndClasses() {
        SaturnalGraph x = new SaturnalGraph();
        int a = x.variable(4);
        int n = x.number(-7);
        int g = x.two('g', a, n);
        x.put(g);
        int f = x.one('f', g);
        x.put(f);
        x.join(f, n);
        promise = 19;
        due(4, x.nodes());
        promise = 20;
        due(3, x.classes());
        promise = 21;
        due(1, x.classOf(3));
        due(1, x.classOf(1));
        due(2, x.classOf(2));
        thrown(INDEX, () -> x.classOf(4));
        thrown(INDEX, () -> x.classOf(-1));
        promise = 22;
        due(2, x.nodesIn(3));
        due(2, x.nodesIn(1));
        due(1, x.nodesIn(0));
        thrown(INDEX, () -> x.nodesIn(4));
        promise = 23;
        due('v', x.kindOf(0));
        due('n', x.kindOf(1));
        due('g', x.kindOf(2));
        due('f', x.kindOf(3));
        thrown(INDEX, () -> x.kindOf(4));
        promise = 24;
        due(4, x.numberOf(0));
        due(-7, x.numberOf(1));
        thrown(UNSUPPORTED, () -> x.numberOf(2));
        thrown(UNSUPPORTED, () -> x.numberOf(3));
        thrown(INDEX, () -> x.numberOf(4));
        promise = 25;
        due(0, x.part(2, 0));
        due(1, x.part(2, 1));
        due(2, x.part(3, 0));
        thrown(NO_SUCH, () -> x.part(3, 1));
        thrown(NO_SUCH, () -> x.part(2, 2));
        thrown(NO_SUCH, () -> x.part(2, -1));
        thrown(NO_SUCH, () -> x.part(0, 0));
        thrown(INDEX, () -> x.part(4, 9));
        x.join(a, n);
        due(0, x.part(2, 1));
    }

    private static void riders() {
        promise = 26;
        SaturnalGraph x = new SaturnalGraph();
        int a = x.variable(0);
        int five = x.number(5);
        int two = x.number(2);
        x.put(x.two('-', five, two));
        x.put(x.one('~', five));
        x.put(x.one('f', five));
        x.put(x.two('g', five, two));
        x.put(x.two('*', a, two));
        x.rebuild();
        due(3, x.constant(x.put(x.two('-', five, two))));
        due(-5, x.constant(x.put(x.one('~', five))));
        thrown(NO_SUCH, () -> x.constant(x.put(x.one('f', five))));
        thrown(NO_SUCH, () -> x.constant(x.put(x.two('g', five, two))));
        thrown(NO_SUCH, () -> x.constant(x.put(x.two('*', a, two))));
        thrown(NO_SUCH, () -> x.constant(x.put(a)));
        thrown(INDEX, () -> x.constant(x.nodes()));
        thrown(INDEX, () -> x.constant(-1));
        // a class that gets its constant from one with a higher number
        SaturnalGraph w = new SaturnalGraph();
        int v0 = w.variable(0);
        int v1 = w.variable(1);
        int less = w.one('~', v1);
        w.put(v0);
        w.put(less);
        w.put(w.number(8));
        w.put(w.number(-8));
        w.join(v0, less);
        w.join(v1, less + 1);
        due(1, w.rebuild());
        due(-8, w.constant(0));
        due(0, w.clashes());
        // the first one by rising numbers, and ints wrap
        SaturnalGraph y = new SaturnalGraph();
        int big = y.number(99);
        for (int i = 0; i < 3; i++) {
            big = y.two('*', big, big);
        }
        int power = big;
        y.put(power);
        y.rebuild();
        int want = 99 * 99;
        want *= want;
        want *= want;
        due(want, y.constant(y.put(power)));
        int one = y.number(1);
        int zero = y.number(0);
        y.put(zero);
        y.put(one);
        y.join(zero, one);
        due(0, y.constant(y.put(one)));
        promise = 28;
        due(1, y.clashes());
        due(0, x.clashes());
        // a clash of what is reckoned, not of numbers
        x.put(x.two('+', five, two));
        x.put(x.two('+', two, two));
        x.join(x.terms() - 2, x.terms() - 1);
        due(1, x.clashes());
        promise = 27;
        SaturnalGraph z = new SaturnalGraph();
        int z0 = z.variable(0);
        int v5 = z.variable(5);
        int both = z.two('g', z0, z.two('*', v5, z.number(0)));
        int node = z.put(both);
        due(33, z.free(node));
        due(1, z.free(0));
        due(32, z.free(1));
        due(0, z.free(2));
        z.put(z.one('f', z0));
        z.join(z.terms() - 1, both);
        due(1, z.free(node));
        // a class that is a part of itself: as many as can be
        z.put(z.one('f', v5));
        z.join(z.terms() - 1, v5);
        due(32, z.free(1));
        thrown(INDEX, () -> z.free(z.nodes()));
        thrown(INDEX, () -> z.free(-1));
    }

    private static void matching() {
        promise = 29;
        SaturnalGraph x = new SaturnalGraph();
        int h0 = x.hole(0);
        int h1 = x.hole(1);
        int a = x.variable(0);
        int b = x.variable(1);
        int zero = x.number(0);
        int any = x.rule(x.two('g', h0, h1), h0, '-');
        int same = x.rule(x.two('g', h0, h0), h0, '-');
        int known = x.rule(x.two('g', h0, h1), h1, 'n');
        int notZero = x.rule(x.two('g', h0, h1), h1, 'z');
        int nested = x.rule(x.two('g', h0, x.one('f', h1)), h1, '-');
        int exact = x.rule(x.two('g', a, zero), a, '-');
        x.put(x.two('g', a, a));
        x.put(x.two('g', a, b));
        x.put(x.two('g', zero, b));
        x.put(x.two('g', x.number(4), x.one('f', b)));
        thrown(STATE, () -> x.matches(any));
        thrown(INDEX, () -> x.matches(6));
        thrown(INDEX, () -> x.matches(-1));
        x.rebuild();
        due(4, x.matches(any));
        due(1, x.matches(same));
        due(2, x.matches(known));
        due(1, x.matches(notZero));
        x.put(x.two('g', x.number(-1), b));
        x.rebuild();
        due(2, x.matches(notZero));
        due(3, x.matches(known));
        due(5, x.matches(any));
        due(1, x.matches(nested));
        due(0, x.matches(exact));
        x.put(x.two('g', a, zero));
        x.rebuild();
        due(1, x.matches(exact));
        // with a and b in one class two nodes are alike, and their matches are one
        x.join(a, b);
        x.rebuild();
        due(5, x.matches(any));
        x.setLimit(any, 1);
        x.setNodes(10);
        due(5, x.matches(any));
        // a class in which each node is in itself: one match, not one for each way
        SaturnalGraph y = new SaturnalGraph();
        int v = y.variable(0);
        int t = v;
        for (int i = 0; i < 60; i++) {
            t = y.one('f', t);
        }
        y.put(t);
        y.join(v, v + 1);
        y.rebuild();
        due(1, y.classes());
        int p = y.hole(0);
        for (int i = 0; i < 39; i++) {
            p = y.one('f', p);
        }
        due(1, y.matches(y.rule(p, v, '-')));
    }

    /** Choices that lead nowhere must not take for ever, and many matches are counted. */
    private static void hardMatching() {
        promise = 29;
        SaturnalGraph x = new SaturnalGraph();
        int v = x.variable(0);
        x.put(v);
        for (int i = 0; i < 20; i++) {
            int g = x.two('g', v, x.one('f', x.number(i)));
            x.put(g);
            x.join(v, g);
        }
        x.rebuild();
        int p = x.hole(0);
        int f = x.one('f', x.hole(1));
        for (int i = 0; i < 12; i++) {
            p = x.two('g', p, f);
        }
        due(20, x.matches(x.rule(p, f, '-')));
        SaturnalGraph y = new SaturnalGraph();
        int first = y.one('f', y.number(0));
        y.put(first);
        for (int i = 1; i < 30; i++) {
            int next = y.one('f', y.number(i));
            y.put(next);
            y.join(first, next);
        }
        int pair = y.two('g', first, first);
        y.put(pair);
        y.join(first, pair);
        y.rebuild();
        int q = y.one('f', y.hole(0));
        for (int i = 1; i < 4; i++) {
            q = y.two('g', y.one('f', y.hole(i)), q);
        }
        due(30 * 30 * 30 * 30, y.matches(y.rule(q, first, '-')));
    }

    /** Holes that stand more than once, in classes whose numbers lie far apart. */
    private static void repeatedHoles() {
        promise = 29;
        SaturnalGraph x = new SaturnalGraph();
        int[] n = new int[70];
        for (int i = 0; i < 70; i++) {
            n[i] = x.number(i);
            x.put(n[i]);
        }
        int h0 = x.hole(0);
        int h1 = x.hole(1);
        int same = x.rule(x.two('g', h0, h0), h0, '-');
        int crossed = x.rule(x.two('+', x.two('g', h0, h1), x.two('g', h1, h0)), h0, '-');
        int deep = x.rule(x.two('+', x.two('g', h0, h1), x.two('g', h0, h1)), h0, '-');
        int low = x.two('g', n[1], n[65]);
        int high = x.two('g', n[65], n[1]);
        int even = x.two('g', n[65], n[65]);
        x.put(x.two('+', low, high));
        x.put(x.two('+', low, even));
        x.put(x.two('+', even, even));
        x.put(x.two('+', high, high));
        x.rebuild();
        due(1, x.matches(same));
        due(2, x.matches(crossed));
        due(2, x.matches(deep));
    }

    /** Chains of g with the holes in front of a term, the last sign of the text innermost. */
    private static int wrap(SaturnalGraph x, int term, String holes, boolean isFirst) {
        int t = term;
        for (int i = holes.length() - 1; i >= 0; i--) {
            int h = x.hole(holes.charAt(i) - '0');
            t = isFirst ? x.two('g', h, t) : x.two('g', t, h);
        }
        return t;
    }

    /** A class with very many nodes that fit a left term but for what stands at its very end. */
    private static void lateMatches(int many, int fs, String holes, int want) {
        promise = 29;
        SaturnalGraph x = new SaturnalGraph();
        int c = x.variable(0);
        int z = x.variable(1);
        x.put(c);
        x.put(z);
        int[] y = new int[many];
        for (int j = 0; j < many; j++) {
            y[j] = x.number(j + 1);
            x.put(y[j]);
        }
        int[] pairs = new int[many + 2];
        for (int j = 0; j < many; j++) {
            pairs[j] = x.two('g', c, y[j]);
        }
        pairs[many] = x.two('g', y[many - 1], y[0]);
        pairs[many + 1] = x.one('f', c);
        for (int pair : pairs) {
            x.put(pair);
            x.join(pair, c);
        }
        int left = x.two('g', x.hole(0), x.hole(1));
        for (int k = 0; k < fs; k++) {
            left = x.one('f', left);
        }
        left = wrap(x, left, holes, false);
        int rule = x.rule(left, c, '-');
        x.setLimit(rule, 999);
        x.rebuild();
        due(want, x.matches(rule));
        promise = 35;
        due('s', x.saturate(3));
        due(want, x.applied(rule));
        due(1, x.rounds());
    }

    /** A graph that rules made out of few terms: the nodes f(f(..)) of a value, and their pairs in one class. */
    private static void graphOfRules() {
        promise = 29;
        SaturnalGraph x = new SaturnalGraph();
        int c = x.variable(0);
        int pair = x.two('g', x.variable(1), c);
        int h0 = x.hole(0);
        int same = x.rule(x.two('g', h0, c), c, '-');
        int more = x.rule(x.two('g', h0, c), x.two('g', x.one('f', h0), c), '-');
        x.setLimit(same, 999);
        x.setLimit(more, 999);
        x.setNodes(300);
        x.put(pair);
        x.put(x.one('f', c));
        x.join(x.terms() - 1, c);
        char end = 'r';
        for (int i = 0; i < 20 && end == 'r'; i++) {
            end = x.saturate(20);
        }
        due('n', end);
        due(300, x.nodes());
        int values = x.matches(same);
        due(true, values >= 147);
        // each hole is one of the values; all of it is in the one class
        int once = x.rule(wrap(x, c, "0123", true), c, '-');
        int twice = x.rule(wrap(x, c, "01230123", true), c, '-');
        int crossed = x.rule(wrap(x, x.one('f', wrap(x, c, "3210", true)), "0123", true), c, '-');
        int mixed = x.rule(wrap(x, x.one('f', wrap(x, c, "00", true)), "0121", true), c, '-');
        due(values * values * values * values, x.matches(once));
        due(values * values * values * values, x.matches(twice));
        due(values * values * values * values, x.matches(crossed));
        due(values * values * values, x.matches(mixed));
        promise = 34;
        x.round();
        due(1, x.banned(crossed));
        due(0, x.applied(crossed));
    }

    /** The numbers 0 to 7 with their sums as g, and f of 0 alone: what is 0 behind f is what is counted. */
    private static void tableOfSums() {
        promise = 29;
        SaturnalGraph x = new SaturnalGraph();
        int[] e = new int[8];
        for (int i = 0; i < 8; i++) {
            e[i] = x.number(i);
            x.put(e[i]);
        }
        for (int i = 0; i < 64; i++) {
            int pair = x.two('g', e[i / 8], e[i % 8]);
            x.put(pair);
            x.join(pair, e[(i / 8 + i % 8) % 8]);
        }
        int top = x.one('f', e[0]);
        x.put(top);
        x.rebuild();
        due(9, x.classes());
        int[] h = {x.hole(0), x.hole(1), x.hole(2), x.hole(3)};
        int sum = x.two('g', x.two('g', h[2], h[0]), x.two('g', h[3], h[1]));
        int twice = x.two('g', x.two('g', h[0], h[1]), sum);
        // 2 a + 2 b + c + d is 0: d is what it must be
        int some = x.rule(x.one('f', twice), h[0], '-');
        due(8 * 8 * 8, x.matches(some));
        // 4 a + 4 b + 4 c + 4 d is 0: their sum is even
        int even = x.two('g', x.two('g', h[0], h[1]), x.two('g', h[2], h[3]));
        even = x.two('g', even, even);
        even = x.two('g', even, even);
        due(8 * 8 * 8 * 4, x.matches(x.rule(x.one('f', even), h[0], '-')));
        // and never 1
        due(0, x.matches(x.rule(x.one('f', x.two('g', even, e[1])), h[0], '-')));
        promise = 35;
        x.setLimit(some, 512);
        x.round();
        due(512, x.applied(some));
    }

    /** A limit that was doubled until it was enough for very many matches, which are all applied then. */
    private static void doubledLimit() {
        promise = 35;
        SaturnalGraph x = new SaturnalGraph();
        int many = 45;
        int c = x.variable(0);
        for (int i = 0; i < many; i++) {
            int pair = x.two('g', x.number(i), c);
            x.put(pair);
            x.join(pair, c);
        }
        int rule = x.rule(wrap(x, c, "012", true), x.two('g', x.hole(2), c), '-');
        x.setLimit(rule, 999);
        x.rebuild();
        due(many * many * many, x.matches(rule));
        // banned for 1 + 2 + 4 + 8 + 16 + 32 + 64 rounds: the limit is 127872 then
        for (int i = 0; i < 6; i++) {
            due('r', x.saturate(20));
        }
        due('r', x.saturate(14));
        due(0, x.applied(rule));
        due(0, x.banned(rule));
        due('s', x.saturate(20));
        due(135, x.rounds());
        due(many * many * many, x.applied(rule));
        due(127872, x.setLimit(rule, 1));
    }

    private static void rounds() {
        promise = 30;
        SaturnalGraph x = new SaturnalGraph();
        int h0 = x.hole(0);
        int h1 = x.hole(1);
        int a = x.variable(0);
        int b = x.variable(1);
        int swap = x.rule(x.two('+', h0, h1), x.two('+', h1, h0), '-');
        int sum = x.two('+', a, b);
        due(2, x.put(sum));
        due(1, x.round());
        due(4, x.nodes());
        due(2, x.classOf(3));
        promise = 32;
        due(1, x.rounds());
        promise = 35;
        due(1, x.applied(swap));
        promise = 30;
        due(0, x.round());
        promise = 35;
        due(3, x.applied(swap));
        thrown(INDEX, () -> x.applied(1));
        thrown(INDEX, () -> x.applied(-1));
        promise = 32;
        due(2, x.rounds());
        promise = 31;
        due('s', x.saturate(20));
        due(3, x.rounds());
        thrown(ARGUMENT, () -> x.saturate(0));
        thrown(ARGUMENT, () -> x.saturate(21));
        due(3, x.rounds());
        // rounds are all done
        SaturnalGraph y = new SaturnalGraph();
        int h = y.hole(0);
        int f = y.one('f', h);
        y.rule(f, y.one('f', y.two('g', h, h)), '-');
        y.put(y.one('f', y.variable(0)));
        due('r', y.saturate(1));
        due(1, y.rounds());
        promise = 33;
        due(false, y.isSpent());
        promise = 31;
        y.setNodes(10);
        due('n', y.saturate(20));
        promise = 33;
        due(true, y.isSpent());
        due(10, y.nodes());
        due(false, y.isDue());
        promise = 35;
        int before = y.applied(0);
        due(0, y.round());
        // x, g1, g2 and g3 have their right terms already, that of g4 has no room
        due(before + 4, y.applied(0));
        promise = 33;
        y.setNodes(300);
        y.round();
        due(false, y.isSpent());
    }

    /** All matches are found before one is applied; the limit ends a round within a right term. */
    private static void roundsInDetail() {
        promise = 30;
        SaturnalGraph x = new SaturnalGraph();
        int h = x.hole(0);
        int f = x.one('f', h);
        int a = x.variable(0);
        int grow = x.rule(f, x.one('f', x.two('g', h, h)), '-');
        int twist = x.rule(x.two('g', h, x.hole(1)), h, '-');
        x.put(x.one('f', a));
        due(1, x.round());
        due(1, x.applied(grow));
        due(0, x.applied(twist));
        due(4, x.nodes());
        SaturnalGraph y = new SaturnalGraph();
        int hole = y.hole(0);
        int deep = y.one('~', y.one('~', y.one('~', y.one('~', hole))));
        y.rule(y.one('f', hole), y.two('+', deep, y.number(1)), '-');
        y.put(y.one('f', y.variable(0)));
        y.put(y.variable(1));
        for (int i = 2; i < 6; i++) {
            y.put(y.variable(i));
        }
        due(7, y.nodes());
        y.setNodes(10);
        due(0, y.round());
        due(true, y.isSpent());
        due(10, y.nodes());
        due(0, y.applied(0));
        due(8, y.classOf(y.part(9, 0)));
        due(10, y.classes());
        // a hole is the node whose number its class has then
        SaturnalGraph z = new SaturnalGraph();
        int k = z.hole(0);
        int va = z.variable(0);
        int vb = z.variable(1);
        z.put(vb);
        z.put(va);
        z.rule(z.one('~', k), z.variable(1), '-');
        z.rule(z.one('f', z.one('~', k)), z.one('f', z.one('~', k)), '-');
        int ffa = z.one('f', z.one('~', va));
        z.put(ffa);
        due(1, z.round());
        due(0, z.classOf(z.part(3, 0)));
        due(4, z.nodes());
        due(2, z.applied(0) + z.applied(1));
    }

    private static void bans() {
        promise = 34;
        SaturnalGraph x = new SaturnalGraph();
        int h0 = x.hole(0);
        int r = x.rule(x.one('f', h0), x.one('~', h0), '-');
        for (int i = 0; i < 9; i++) {
            x.put(x.one('f', x.number(i)));
        }
        due(20, x.setLimit(r, 1));
        due(0, x.banned(r));
        due(0, x.round());
        due(1, x.banned(r));
        promise = 12;
        due(2, x.setLimit(r, 2));
        promise = 34;
        due(0, x.round());
        due(0, x.banned(r));
        due(0, x.round());
        due(2, x.banned(r));
        promise = 12;
        due(4, x.setLimit(r, 4));
        promise = 34;
        due('r', x.saturate(1));
        due(1, x.banned(r));
        due('r', x.saturate(1));
        due(0, x.banned(r));
        due(0, x.applied(r));
        // limit 4, then 4 rounds
        due('r', x.saturate(1));
        due(4, x.banned(r));
        due('r', x.saturate(4));
        due(0, x.banned(r));
        // 9 matches, the limit 9
        due(8, x.setLimit(r, 9));
        due(9, x.round());
        due(9, x.applied(r));
        due(9, x.setLimit(r, 8));
        // twice as many each time, whatever came between
        x.round();
        due(8, x.banned(r));
        thrown(INDEX, () -> x.banned(1));
        thrown(INDEX, () -> x.banned(-1));
        promise = 31;
        due(16, x.setLimit(r, 20));
        due('s', x.saturate(20));
        due(0, x.banned(r));
        due(12 + 9, x.rounds());
    }

    private static void costs() {
        promise = 36;
        SaturnalGraph x = new SaturnalGraph();
        due(1, x.setCost('g', 99));
        due(99, x.setCost('g', 1));
        for (char c : "nvh?".toCharArray()) {
            thrown(ARGUMENT, () -> x.setCost(c, 5));
        }
        thrown(ARGUMENT, () -> x.setCost('g', 0));
        thrown(ARGUMENT, () -> x.setCost('g', 100));
        due(1, x.setCost('*', 5));
        promise = 37;
        int a = x.variable(0);
        int b = x.variable(1);
        int product = x.two('*', a, x.number(2));
        int sum = x.two('+', a, a);
        int node = x.put(product);
        due(2, node);
        due(7, x.cost(node));
        due(3, x.put(sum));
        due(3, x.cost(3));
        x.join(product, sum);
        due(3, x.cost(node));
        due(1, x.cost(0));
        thrown(INDEX, () -> x.cost(4));
        thrown(INDEX, () -> x.cost(-1));
        promise = 38;
        due(3, x.best(node));
        due(0, x.best(0));
        x.setCost('*', 1);
        due(2, x.best(3));
        x.setCost('*', 2);
        due(3, x.best(2));
        thrown(INDEX, () -> x.best(4));
        promise = 39;
        due(2, x.sharedCost(node));
        int root = x.put(x.two('g', sum, x.two('-', sum, b)));
        due(1 + 3 + 1 + 3 + 1, x.cost(root));
        due(1 + 2 + 1 + 1, x.sharedCost(root));
        thrown(INDEX, () -> x.sharedCost(99));
        promise = 40;
        due(31 * 14 + 17 * (14 - 9), x.bestValue(root, 7, 9));
        due(9, x.bestValue(x.put(b), 7, 9));
        due(0, x.bestValue(x.put(x.variable(2)), 7, 9));
        due(2, x.bestValue(x.put(x.number(2)), 7, 9));
        thrown(INDEX, () -> x.bestValue(-1, 7, 9));
        // the best of a class that is a part of itself
        SaturnalGraph y = new SaturnalGraph();
        int v = y.variable(0);
        int fv = y.one('f', v);
        y.put(fv);
        y.join(v, fv);
        due(1, y.cost(1));
        due(0, y.best(1));
        promise = 45;
        due(1L, y.sum());
        due(1L + 1 + 3 + 1 + 5 + 9 + 1, x.sum());
    }

    /** Terms that are too dear have no best node. */
    private static void dearTerms() {
        SaturnalGraph x = new SaturnalGraph();
        x.setNodes(300);
        int h = x.hole(0);
        int f = x.one('f', h);
        x.rule(f, x.one('f', x.two('g', h, h)), '-');
        x.setCost('g', 99);
        x.put(x.one('f', x.variable(0)));
        x.saturate(16);
        int dear = -1;
        int known = 0;
        for (int i = 0; i < x.nodes(); i++) {
            if (x.kindOf(i) == 'g') {
                known++;
                dear = known == 14 ? i : dear;
            }
        }
        int node = dear;
        promise = 37;
        due(1000000, x.cost(node));
        due(819101, x.cost(x.part(node, 0)));
        promise = 38;
        thrown(NO_SUCH, () -> x.best(node));
        due(x.part(node, 0), x.best(x.part(node, 0)));
        promise = 39;
        thrown(NO_SUCH, () -> x.sharedCost(node));
        due(13 * 99 + 1, x.sharedCost(x.part(node, 0)));
        promise = 40;
        thrown(NO_SUCH, () -> x.bestValue(node, 1, 2));
        promise = 45;
        due(true, x.sum() > 2000000L);
        promise = 48;
        due(true, x.isSound());
    }

    private static void chains() {
        promise = 41;
        SaturnalGraph x = new SaturnalGraph();
        int a = x.variable(0);
        int b = x.variable(1);
        int c = x.variable(2);
        int h = x.hole(0);
        int zero = x.number(0);
        int plus = x.two('+', a, zero);
        int r = x.rule(x.two('+', h, zero), h, '-');
        int left = x.two('g', a, plus);
        int right = x.two('g', b, c);
        x.put(left);
        x.put(right);
        thrown(NO_SUCH, () -> x.why(a, b));
        thrown(NO_SUCH, () -> x.why(a, h));
        thrown(INDEX, () -> x.why(h, 99));
        thrown(INDEX, () -> x.why(-1, h));
        due(0, x.why(a, a));
        x.join(a, b);
        x.join(b, c);
        due(1, x.why(a, b));
        due(2, x.why(c, a));
        x.round();
        due(1, x.why(plus, a));
        // a to b: a fact; a + 0 to c: the rule, two facts
        due(4, x.why(left, right));
        due(4, x.why(right, left));
        promise = 42;
        due(100, x.whyAt(left, right, 0));
        due(r, x.whyAt(left, right, 1));
        due(100, x.whyAt(left, right, 2));
        due(100, x.whyAt(left, right, 3));
        thrown(NO_SUCH, () -> x.whyAt(left, right, 4));
        thrown(NO_SUCH, () -> x.whyAt(left, right, -1));
        due(100, x.whyAt(right, left, 0));
        due(100, x.whyAt(right, left, 1));
        due(100, x.whyAt(right, left, 2));
        due(r, x.whyAt(right, left, 3));
        thrown(NO_SUCH, () -> x.whyAt(a, a, 0));
        thrown(NO_SUCH, () -> x.whyAt(a, left, 0));
        thrown(NO_SUCH, () -> x.whyAt(h, h, 0));
        thrown(INDEX, () -> x.whyAt(99, a, -5));
        // a reckoning
        SaturnalGraph y = new SaturnalGraph();
        int six = y.two('*', y.number(2), y.number(3));
        int plain = y.number(6);
        y.put(six);
        y.put(plain);
        y.rebuild();
        promise = 41;
        due(1, y.why(six, plain));
        promise = 42;
        due(101, y.whyAt(plain, six, 0));
    }

    /** Each storey doubles the chain and adds two: 1, 4, 10, 22 and so on. */
    private static void longChains() {
        SaturnalGraph x = new SaturnalGraph();
        int[] left = new int[20];
        int[] right = new int[20];
        for (int i = 0; i < 20; i++) {
            left[i] = x.number(i);
            right[i] = x.number(i + 40);
            x.put(left[i]);
            x.put(right[i]);
            if (i > 0) {
                int low = x.two('g', left[i - 1], left[i - 1]);
                int high = x.two('g', right[i - 1], right[i - 1]);
                x.put(low);
                x.put(high);
                x.join(low, left[i]);
                x.join(high, right[i]);
            }
        }
        x.join(left[0], right[0]);
        x.rebuild();
        promise = 41;
        int want = 1;
        for (int i = 0; i < 19; i++) {
            due(want, x.why(left[i], right[i]));
            want = 2 * want + 2;
        }
        due(1000000, x.why(left[19], right[19]));
        promise = 42;
        due(100, x.whyAt(left[19], right[19], 0));
        due(100, x.whyAt(left[19], right[19], 999));
        thrown(NO_SUCH, () -> x.whyAt(left[19], right[19], 1000));
        thrown(NO_SUCH, () -> x.whyAt(left[19], right[19], Integer.MAX_VALUE));
        promise = 48;
        due(true, x.isSound());
    }

    private static void stack() {
        promise = 43;
        SaturnalGraph x = new SaturnalGraph();
        int a = x.variable(0);
        int b = x.variable(1);
        int h = x.hole(0);
        int fa = x.one('f', a);
        int r = x.rule(x.one('f', h), x.one('~', h), '-');
        x.put(fa);
        x.setLimit(r, 5);
        due(1, x.push());
        x.put(b);
        x.join(a, b);
        x.round();
        due(2, x.push());
        x.setLimit(r, 7);
        due(3, x.push());
        thrown(STATE, x::push);
        promise = 44;
        due(4, x.pop());
        due(7, x.setLimit(r, 6));
        due(4, x.pop());
        due(5, x.setLimit(r, 6));
        due(1, x.applied(r));
        due(1, x.rounds());
        due(true, x.areSame(a, b));
        int late = x.rule(x.one('~', h), h, '-');
        x.setLimit(late, 1);
        x.put(x.one('~', b));
        x.put(x.one('~', x.number(1)));
        x.put(x.one('~', x.number(2)));
        x.round();
        due(1, x.banned(late));
        x.setCost('f', 9);
        x.setNodes(77);
        int terms = x.terms();
        due(2, x.pop());
        due(2, x.nodes());
        due(2, x.classes());
        due(true, x.isDue());
        due(0, x.rounds());
        due(0, x.applied(r));
        due(5, x.setLimit(r, 5));
        due(0, x.banned(late));
        due(0, x.applied(late));
        due(20, x.setLimit(late, 20));
        due(terms, x.terms());
        due(9, x.setCost('f', 9));
        due(77, x.setNodes(77));
        thrown(NO_SUCH, () -> x.areSame(a, b));
        due(false, x.areSame(a, fa));
        thrown(STATE, x::pop);
        due(true, x.isSound());
        // how often a rule was banned is kept too
        x.setLimit(late, 1);
        x.put(x.one('~', a));
        x.put(x.one('~', fa));
        x.push();
        x.round();
        due(1, x.banned(late));
        x.round();
        x.setLimit(late, 1);
        x.round();
        due(2, x.banned(late));
        x.pop();
        due(0, x.banned(late));
        x.round();
        due(1, x.banned(late));
    }

    private static void sums() {
        promise = 45;
        SaturnalGraph x = new SaturnalGraph();
        due(0L, x.sum());
        promise = 46;
        thrown(ARITHMETIC, x::constantShare);
        promise = 47;
        thrown(ARITHMETIC, x::meanNodes);
        int a = x.variable(0);
        int n = x.number(1);
        int sum = x.two('+', a, n);
        x.put(sum);
        promise = 45;
        due(5L, x.sum());
        promise = 46;
        due(1.0f / 3.0f, x.constantShare());
        promise = 47;
        due(1.0, x.meanNodes());
        x.join(sum, a);
        due(1.5, x.meanNodes());
        promise = 46;
        due(0.5f, x.constantShare());
        promise = 48;
        due(true, x.isSound());
        x.rebuild();
        due(true, x.isSound());
    }

    public static void main(String[] arguments) {
        promise = 1;
        newObject();
        leaves();
        operators();
        termsAndValues();
        rules();
        holdsAndLimits();
        puts();
        joins();
        rebuilds();
        nodesAndClasses();
        riders();
        matching();
        hardMatching();
        repeatedHoles();
        lateMatches(12, 29, "0132", 12 * 12);
        lateMatches(26, 29, "0132", 26 * 26);
        lateMatches(26, 5, "3210", 26 * 26);
        lateMatches(26, 29, "0011", 1);
        lateMatches(26, 25, "012310", 26 * 26);
        lateMatches(31, 15, "02321332023", 31 * 31);
        graphOfRules();
        tableOfSums();
        doubledLimit();
        rounds();
        roundsInDetail();
        bans();
        costs();
        dearTerms();
        chains();
        longChains();
        stack();
        sums();
        System.out.println(checks + " checks, " + wrong + " wrong");
        if (wrong != 0) {
            System.exit(1);
        }
    }
}
