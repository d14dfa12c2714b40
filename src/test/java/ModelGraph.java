import java.util.ArrayList;
import java.util.Arrays;
import java.util.HashMap;
import java.util.HashSet;
import java.util.List;
import java.util.Map;
import java.util.NoSuchElementException;
import java.util.Set;
import java.util.TreeSet;

/**
 * The document once more, in the most literal way and without regard to speed: what ModelTest compares
 * the class with.
 */
final class ModelGraph {
    /** Thrown when this way would take too long; the run is given up then. */
    static final class TooSlow extends RuntimeException {
        private static final long serialVersionUID = 1L;
    }

    private record Term(char kind, int number, int first, int second, int size, Set<Integer> holes, boolean op) { }

    private record Link(int one, int other, int reason) { }

    private record Match(int node, int group, Map<Integer, Integer> holes) { }

    private static final class Node {
        char kind;
        int number;
        int[] parts;

        Node(char kind, int number, int... parts) {
            this.kind = kind;
            this.number = number;
            this.parts = parts;
        }
    }

    private static final class RuleState {
        int banned;
        int times;
        int limit = 20;
        int applied;

        RuleState copy() {
            RuleState s = new RuleState();
            s.banned = banned;
            s.times = times;
            s.limit = limit;
            s.applied = applied;
            return s;
        }
    }

    private static final class State {
        List<Node> nodes = new ArrayList<>();
        List<Integer> group = new ArrayList<>();
        List<Link> links = new ArrayList<>();
        boolean due;
        Map<Integer, Integer> put = new HashMap<>();
        Map<Integer, RuleState> states = new HashMap<>();
        int rounds;
        boolean spent;

        State copy() {
            State s = new State();
            s.nodes = new ArrayList<>(nodes);
            s.group = new ArrayList<>(group);
            s.links = new ArrayList<>(links);
            s.due = due;
            s.put = new HashMap<>(put);
            for (Map.Entry<Integer, RuleState> e : states.entrySet()) {
                s.states.put(e.getKey(), e.getValue().copy());
            }
            s.rounds = rounds;
            s.spent = spent;
            return s;
        }
    }

    private final List<Term> terms = new ArrayList<>();
    private final List<int[]> rules = new ArrayList<>();
    private final Map<Character, Integer> costs = new HashMap<>();
    private final List<State> stack = new ArrayList<>();
    private int limit = 200;
    private State s = new State();
    private int work;

    private void tick() {
        if (++work > 3000000) {
            throw new TooSlow();
        }
    }

    // terms

    private int add(Term t) {
        if (terms.size() == 120 || t.size > 400) {
            throw new IllegalStateException();
        }
        terms.add(t);
        return terms.size() - 1;
    }

    boolean isOneClass(int a, int b) {
        return s.put.containsKey(a) && s.put.containsKey(b) && s.group.get(s.put.get(a)).equals(s.group.get(s.put.get(b)));
    }

    boolean hasHole(int t) {
        return !terms.get(t).holes.isEmpty();
    }

    private Term term(int t) {
        if (t < 0 || t >= terms.size()) {
            throw new IndexOutOfBoundsException();
        }
        return terms.get(t);
    }

    int number(int v) {
        if (v < -99 || v > 99) {
            throw new IllegalArgumentException();
        }
        return add(new Term('n', v, -1, -1, 1, Set.of(), false));
    }

    int variable(int v) {
        if (v < 0 || v > 5) {
            throw new IllegalArgumentException();
        }
        return add(new Term('v', v, -1, -1, 1, Set.of(), false));
    }

    int hole(int v) {
        if (v < 0 || v > 3) {
            throw new IllegalArgumentException();
        }
        return add(new Term('h', v, -1, -1, 1, Set.of(v), false));
    }

    int one(char o, int p) {
        if (o != '~' && o != 'f') {
            throw new IllegalArgumentException();
        }
        Term t = term(p);
        return add(new Term(o, 0, p, -1, t.size + 1, t.holes, true));
    }

    int two(char o, int a, int b) {
        if ("+-*g".indexOf(o) < 0) {
            throw new IllegalArgumentException();
        }
        Term t = term(a);
        Term u = term(b);
        Set<Integer> holes = new TreeSet<>(t.holes);
        holes.addAll(u.holes);
        return add(new Term(o, 0, a, b, t.size + u.size + 1, holes, true));
    }

    int terms() {
        return terms.size();
    }

    int size(int t) {
        return term(t).size;
    }

    private static int reckon(char o, int a, int b) {
        switch (o) {
            case '~': return -a;
            case 'f': return 7 * a + 3;
            case '+': return a + b;
            case '-': return a - b;
            case '*': return a * b;
            default: return 31 * a + 17 * b;
        }
    }

    private int eval(int t, int v0, int v1, int h0, int h1) {
        Term x = terms.get(t);
        if (x.kind == 'n') {
            return x.number;
        }
        if (x.kind == 'v') {
            return x.number == 0 ? v0 : x.number == 1 ? v1 : 0;
        }
        if (x.kind == 'h') {
            return x.number == 0 ? h0 : x.number == 1 ? h1 : 0;
        }
        return reckon(x.kind, eval(x.first, v0, v1, h0, h1), x.second < 0 ? 0 : eval(x.second, v0, v1, h0, h1));
    }

    int value(int t, int a, int b) {
        if (!term(t).holes.isEmpty()) {
            throw new UnsupportedOperationException();
        }
        return eval(t, a, b, 0, 0);
    }

    // rules

    int rule(int l, int r, char c) {
        Term a = term(l);
        Term b = term(r);
        if ("-nz".indexOf(c) < 0) {
            throw new IllegalArgumentException();
        }
        if (!a.op || a.size > 40 || b.size > 40 || !a.holes.containsAll(b.holes)
                || c != '-' && !a.holes.contains(0)) {
            throw new UnsupportedOperationException();
        }
        if (rules.size() == 12) {
            throw new IllegalStateException();
        }
        rules.add(new int[] {l, r, c});
        return rules.size() - 1;
    }

    private int[] ruleOf(int r) {
        if (r < 0 || r >= rules.size()) {
            throw new IndexOutOfBoundsException();
        }
        return rules.get(r);
    }

    private RuleState state(int r) {
        return s.states.computeIfAbsent(r, k -> new RuleState());
    }

    boolean holds(int r, int a, int b) {
        int[] x = ruleOf(r);
        return eval(x[0], 0, 0, a, b) == eval(x[1], 0, 0, a, b);
    }

    int setLimit(int r, int l) {
        ruleOf(r);
        if (l < 1 || l > 999) {
            throw new IllegalArgumentException();
        }
        int before = state(r).limit;
        state(r).limit = l;
        return before;
    }

    int setNodes(int n) {
        if (n < 10 || n > 300) {
            throw new IllegalArgumentException();
        }
        int before = limit;
        limit = n;
        return before;
    }

    // graph

    private List<Object> key(char kind, int number, int... parts) {
        List<Object> k = new ArrayList<>();
        k.add(kind);
        k.add(number);
        for (int p : parts) {
            k.add(s.group.get(p));
        }
        return k;
    }

    private List<Object> key(int n) {
        Node x = s.nodes.get(n);
        return key(x.kind, x.number, x.parts);
    }

    private int enter(char kind, int number, int... parts) {
        List<Object> k = key(kind, number, parts);
        for (int i = 0; i < s.nodes.size(); i++) {
            if (key(i).equals(k)) {
                return i;
            }
        }
        if (s.nodes.size() >= limit) {
            return -1;
        }
        int[] own = new int[parts.length];
        for (int i = 0; i < parts.length; i++) {
            own[i] = s.group.get(parts[i]);
        }
        s.nodes.add(new Node(kind, number, own));
        s.group.add(s.nodes.size() - 1);
        s.due = true;
        return s.nodes.size() - 1;
    }

    /** Without remembering any part: each is put in as often as it stands there. */
    private int enterTerm(int t, Map<Integer, Integer> holes, Map<Integer, Integer> put) {
        tick();
        Term x = terms.get(t);
        int n;
        if (x.kind == 'h') {
            return s.group.get(holes.get(x.number));
        } else if (!x.op) {
            n = enter(x.kind, x.number);
        } else {
            int a = enterTerm(x.first, holes, put);
            if (a < 0) {
                return -1;
            }
            if (x.second < 0) {
                n = enter(x.kind, 0, a);
            } else {
                int b = enterTerm(x.second, holes, put);
                if (b < 0) {
                    return -1;
                }
                n = enter(x.kind, 0, a, b);
            }
        }
        if (put != null) {
            put.put(t, n);
        }
        return n;
    }

    int put(int t) {
        if (!term(t).holes.isEmpty()) {
            throw new UnsupportedOperationException();
        }
        State before = s;
        s = s.copy();
        int n = enterTerm(t, Map.of(), s.put);
        if (n < 0) {
            s = before;
            throw new IllegalStateException();
        }
        return n;
    }

    private boolean unite(int a, int b, int reason) {
        int x = s.group.get(a);
        int y = s.group.get(b);
        if (x == y) {
            return false;
        }
        s.links.add(new Link(a, b, reason));
        for (int i = 0; i < s.group.size(); i++) {
            if (s.group.get(i) == x || s.group.get(i) == y) {
                s.group.set(i, Math.min(x, y));
            }
        }
        s.due = true;
        return true;
    }

    private int in(int t) {
        Integer n = s.put.get(t);
        if (n == null) {
            throw new NoSuchElementException();
        }
        return n;
    }

    boolean join(int a, int b) {
        term(a);
        term(b);
        int x = in(a);
        int y = in(b);
        return unite(x, y, 100);
    }

    boolean areSame(int a, int b) {
        term(a);
        term(b);
        int x = in(a);
        int y = in(b);
        return s.group.get(x).equals(s.group.get(y));
    }

    boolean isDue() {
        return s.due;
    }

    private List<Integer> members(int c) {
        List<Integer> list = new ArrayList<>();
        for (int i = 0; i < s.nodes.size(); i++) {
            if (s.group.get(i) == c) {
                list.add(i);
            }
        }
        return list;
    }

    private List<Integer> groups() {
        return new ArrayList<>(new TreeSet<>(s.group));
    }

    private Integer numberNow(int n, Map<Integer, Integer> constants) {
        Node x = s.nodes.get(n);
        if (x.kind == 'n') {
            return x.number;
        }
        if ("~+-*".indexOf(x.kind) < 0) {
            return null;
        }
        int[] v = new int[2];
        for (int i = 0; i < x.parts.length; i++) {
            Integer c = constants.get(s.group.get(x.parts[i]));
            if (c == null) {
                return null;
            }
            v[i] = c;
        }
        return reckon(x.kind, v[0], v[1]);
    }

    private Map<Integer, Integer> constants() {
        Map<Integer, Integer> known = new HashMap<>();
        boolean again = true;
        while (again) {
            again = false;
            for (int c : groups()) {
                if (known.containsKey(c)) {
                    continue;
                }
                for (int n : members(c)) {
                    Integer v = numberNow(n, known);
                    if (v != null) {
                        known.put(c, v);
                        again = true;
                        break;
                    }
                }
            }
        }
        return known;
    }

    int rebuild() {
        int joined = 0;
        boolean all = true;
        while (all) {
            all = false;
            boolean again = true;
            while (again) {
                again = false;
                for (int i = 0; i < s.nodes.size(); i++) {
                    List<Object> k = key(i);
                    int low = 0;
                    while (!key(low).equals(k)) {
                        low++;
                    }
                    if (low < i && unite(i, low, 102)) {
                        joined++;
                        again = true;
                    }
                }
            }
            Map<Integer, Integer> known = constants();
            for (int c : groups()) {
                if (s.group.get(c) != c || !known.containsKey(c)) {
                    continue;
                }
                boolean there = false;
                for (int n : members(c)) {
                    there |= s.nodes.get(n).kind == 'n' && s.nodes.get(n).number == known.get(c);
                }
                if (!there) {
                    int n = enter('n', known.get(c));
                    if (n >= 0) {
                        unite(n, c, 101);
                        joined++;
                        all = true;
                    }
                }
            }
        }
        s.due = false;
        return joined;
    }

    int nodes() {
        return s.nodes.size();
    }

    int classes() {
        return groups().size();
    }

    private Node node(int n) {
        if (n < 0 || n >= s.nodes.size()) {
            throw new IndexOutOfBoundsException();
        }
        return s.nodes.get(n);
    }

    int classOf(int n) {
        node(n);
        return s.group.get(n);
    }

    int nodesIn(int n) {
        node(n);
        return members(s.group.get(n)).size();
    }

    char kindOf(int n) {
        return node(n).kind;
    }

    int numberOf(int n) {
        if (node(n).parts.length > 0) {
            throw new UnsupportedOperationException();
        }
        return node(n).number;
    }

    int part(int n, int p) {
        int[] parts = node(n).parts;
        if (p < 0 || p >= parts.length) {
            throw new NoSuchElementException();
        }
        return s.group.get(parts[p]);
    }

    int constant(int n) {
        node(n);
        Integer c = constants().get(s.group.get(n));
        if (c == null) {
            throw new NoSuchElementException();
        }
        return c;
    }

    int free(int n) {
        node(n);
        Map<Integer, Integer> free = new HashMap<>();
        for (int c : groups()) {
            free.put(c, 63);
        }
        while (true) {
            Map<Integer, Integer> next = new HashMap<>();
            for (int c : groups()) {
                int all = 63;
                for (int m : members(c)) {
                    Node x = s.nodes.get(m);
                    int own = x.kind == 'v' ? 1 << x.number : 0;
                    for (int p : x.parts) {
                        own |= free.get(s.group.get(p));
                    }
                    all &= own;
                }
                next.put(c, all);
            }
            if (next.equals(free)) {
                return free.get(s.group.get(n));
            }
            free = next;
        }
    }

    int clashes() {
        Map<Integer, Integer> known = constants();
        int found = 0;
        for (int c : groups()) {
            Set<Integer> numbers = new HashSet<>();
            for (int n : members(c)) {
                Integer v = numberNow(n, known);
                if (v != null) {
                    numbers.add(v);
                }
            }
            found += numbers.size() > 1 ? 1 : 0;
        }
        return found;
    }

    // matching

    private List<Map<Integer, Integer>> matchAt(int t, int group, Map<Integer, Integer> holes) {
        List<Map<Integer, Integer>> found = new ArrayList<>();
        if (terms.get(t).kind == 'h') {
            int h = terms.get(t).number;
            if (!holes.containsKey(h)) {
                Map<Integer, Integer> more = new HashMap<>(holes);
                more.put(h, group);
                found.add(more);
            } else if (holes.get(h) == group) {
                found.add(holes);
            }
            return found;
        }
        for (int n : members(group)) {
            found.addAll(matchNode(t, n, holes));
        }
        return found;
    }

    private List<Map<Integer, Integer>> matchNode(int t, int n, Map<Integer, Integer> holes) {
        tick();
        Term x = terms.get(t);
        Node y = s.nodes.get(n);
        List<Map<Integer, Integer>> found = new ArrayList<>();
        if (x.kind != y.kind || x.number != y.number) {
            return found;
        }
        if (!x.op) {
            found.add(holes);
            return found;
        }
        for (Map<Integer, Integer> m : matchAt(x.first, s.group.get(y.parts[0]), holes)) {
            if (y.parts.length == 1) {
                found.add(m);
            } else {
                found.addAll(matchAt(x.second, s.group.get(y.parts[1]), m));
            }
        }
        return found;
    }

    private List<Match> find(int[] rule) {
        Map<Integer, Integer> known = constants();
        List<Match> found = new ArrayList<>();
        for (int c : groups()) {
            Set<Map<Integer, Integer>> seen = new HashSet<>();
            for (int n : members(c)) {
                for (Map<Integer, Integer> m : matchNode(rule[0], n, Map.of())) {
                    Integer value = m.containsKey(0) ? known.get(m.get(0)) : null;
                    boolean fits = rule[2] == '-' || value != null && (rule[2] == 'n' || value != 0);
                    if (fits && seen.add(m)) {
                        found.add(new Match(n, c, m));
                    }
                }
            }
        }
        return found;
    }

    int matches(int r) {
        work = 0;
        ruleOf(r);
        if (s.due) {
            throw new IllegalStateException();
        }
        return find(rules.get(r)).size();
    }

    private boolean held;

    int round() {
        work = 0;
        rebuild();
        held = false;
        s.spent = false;
        s.rounds++;
        List<List<Match>> all = new ArrayList<>();
        for (int r = 0; r < rules.size(); r++) {
            RuleState st = state(r);
            all.add(List.of());
            if (st.banned > 0) {
                st.banned--;
                held = true;
                continue;
            }
            List<Match> found = find(rules.get(r));
            if (found.size() > st.limit) {
                held = true;
                st.banned = 1;
                for (int i = 0; i < st.times; i++) {
                    st.banned *= 2;
                }
                st.times++;
                st.limit *= 2;
            } else {
                all.set(r, found);
            }
        }
        int joined = applyAll(all);
        rebuild();
        return joined;
    }

    private int applyAll(List<List<Match>> all) {
        int joined = 0;
        for (int r = 0; r < rules.size(); r++) {
            for (Match m : all.get(r)) {
                int n = enterTerm(rules.get(r)[1], m.holes, null);
                if (n < 0) {
                    s.spent = true;
                    return joined;
                }
                state(r).applied++;
                if (unite(n, m.node, r)) {
                    joined++;
                }
            }
        }
        return joined;
    }

    char saturate(int n) {
        if (n < 1 || n > 20) {
            throw new IllegalArgumentException();
        }
        for (int i = 0; i < n; i++) {
            int joined = round();
            if (s.spent) {
                return 'n';
            }
            if (joined == 0 && !held) {
                return 's';
            }
        }
        return 'r';
    }

    int rounds() {
        return s.rounds;
    }

    boolean isSpent() {
        return s.spent;
    }

    int banned(int r) {
        ruleOf(r);
        return state(r).banned;
    }

    int applied(int r) {
        ruleOf(r);
        return state(r).applied;
    }

    // costs

    int setCost(char o, int c) {
        if ("~f+-*g".indexOf(o) < 0 || c < 1 || c > 99) {
            throw new IllegalArgumentException();
        }
        int before = costs.getOrDefault(o, 1);
        costs.put(o, c);
        return before;
    }

    private int own(int n) {
        Node x = s.nodes.get(n);
        return x.parts.length == 0 ? 1 : costs.getOrDefault(x.kind, 1);
    }

    private int nodeCost(int n, Map<Integer, Integer> cost) {
        int sum = own(n);
        for (int p : s.nodes.get(n).parts) {
            sum += cost.get(s.group.get(p));
        }
        return Math.min(1000000, sum);
    }

    /** Settles the cheapest class first, then the next, as for shortest ways. */
    private Map<Integer, Integer> costsNow() {
        Map<Integer, Integer> cost = new HashMap<>();
        for (int c : groups()) {
            cost.put(c, 1000000);
        }
        Set<Integer> settled = new HashSet<>();
        while (true) {
            int least = 1000000;
            int at = -1;
            for (int n = 0; n < s.nodes.size(); n++) {
                int c = s.group.get(n);
                boolean ready = !settled.contains(c);
                for (int p : s.nodes.get(n).parts) {
                    ready &= settled.contains(s.group.get(p));
                }
                if (ready && nodeCost(n, cost) < least) {
                    least = nodeCost(n, cost);
                    at = c;
                }
            }
            if (at < 0) {
                return cost;
            }
            settled.add(at);
            cost.put(at, least);
        }
    }

    int cost(int n) {
        node(n);
        return costsNow().get(s.group.get(n));
    }

    private int bestOf(int c, Map<Integer, Integer> cost) {
        if (cost.get(c) == 1000000) {
            throw new NoSuchElementException();
        }
        for (int n : members(c)) {
            if (nodeCost(n, cost) == cost.get(c)) {
                return n;
            }
        }
        throw new AssertionError();
    }

    int best(int n) {
        node(n);
        return bestOf(s.group.get(n), costsNow());
    }

    private int pay(int c, Map<Integer, Integer> cost, Set<Integer> paid) {
        if (!paid.add(c)) {
            return 0;
        }
        int n = bestOf(c, cost);
        int sum = own(n);
        for (int p : s.nodes.get(n).parts) {
            sum += pay(s.group.get(p), cost, paid);
        }
        return sum;
    }

    int sharedCost(int n) {
        node(n);
        return pay(s.group.get(n), costsNow(), new HashSet<>());
    }

    private int worth(int c, Map<Integer, Integer> cost, int a, int b, Map<Integer, Integer> known) {
        if (known.containsKey(c)) {
            return known.get(c);
        }
        Node x = s.nodes.get(bestOf(c, cost));
        int v;
        if (x.kind == 'n') {
            v = x.number;
        } else if (x.kind == 'v') {
            v = x.number == 0 ? a : x.number == 1 ? b : 0;
        } else {
            int[] p = new int[2];
            for (int i = 0; i < x.parts.length; i++) {
                p[i] = worth(s.group.get(x.parts[i]), cost, a, b, known);
            }
            v = reckon(x.kind, p[0], p[1]);
        }
        known.put(c, v);
        return v;
    }

    int bestValue(int n, int a, int b) {
        node(n);
        return worth(s.group.get(n), costsNow(), a, b, new HashMap<>());
    }

    // chains

    private boolean follow(int from, int to, Set<Link> used, List<int[]> steps) {
        if (from == to) {
            return true;
        }
        for (Link l : s.links) {
            int next = l.one == from ? l.other : l.other == from ? l.one : -1;
            if (next < 0 || !used.add(l)) {
                continue;
            }
            steps.add(new int[] {from, next, l.reason});
            if (follow(next, to, used, steps)) {
                return true;
            }
            steps.remove(steps.size() - 1);
        }
        return false;
    }

    private List<int[]> way(int from, int to) {
        List<int[]> steps = new ArrayList<>();
        if (!follow(from, to, new HashSet<>(), steps)) {
            throw new AssertionError("no way");
        }
        return steps;
    }

    private final Map<List<Integer>, Long> lengths = new HashMap<>();

    private long chain(int from, int to) {
        List<Integer> k = List.of(from, to);
        if (lengths.containsKey(k)) {
            return lengths.get(k);
        }
        long sum = 0;
        for (int[] step : way(from, to)) {
            if (step[2] != 102) {
                sum++;
                continue;
            }
            int[] p = s.nodes.get(step[0]).parts;
            int[] q = s.nodes.get(step[1]).parts;
            for (int i = 0; i < p.length; i++) {
                sum += chain(p[i], q[i]);
            }
        }
        sum = Math.min(sum, 1000000);
        lengths.put(k, sum);
        return sum;
    }

    private int[] nodesOf(int a, int b) {
        term(a);
        term(b);
        int x = in(a);
        int y = in(b);
        if (!s.group.get(x).equals(s.group.get(y))) {
            throw new NoSuchElementException();
        }
        return new int[] {x, y};
    }

    int why(int a, int b) {
        int[] x = nodesOf(a, b);
        lengths.clear();
        return (int) chain(x[0], x[1]);
    }

    private void spell(int from, int to, List<Integer> out) {
        for (int[] step : way(from, to)) {
            if (out.size() >= 1000) {
                return;
            }
            if (step[2] != 102) {
                out.add(step[2]);
                continue;
            }
            int[] p = s.nodes.get(step[0]).parts;
            int[] q = s.nodes.get(step[1]).parts;
            for (int i = 0; i < p.length; i++) {
                spell(p[i], q[i], out);
            }
        }
    }

    int whyAt(int a, int b, int step) {
        int[] x = nodesOf(a, b);
        List<Integer> out = new ArrayList<>();
        spell(x[0], x[1], out);
        if (step < 0 || step > 999 || step >= out.size()) {
            throw new NoSuchElementException();
        }
        return out.get(step);
    }

    // stack

    int push() {
        if (stack.size() == 3) {
            throw new IllegalStateException();
        }
        stack.add(s.copy());
        return stack.size();
    }

    int pop() {
        if (stack.isEmpty()) {
            throw new IllegalStateException();
        }
        s = stack.remove(stack.size() - 1);
        return s.nodes.size();
    }

    // sums

    long sum() {
        long sum = 0;
        for (int c : costsNow().values()) {
            sum += c;
        }
        return sum;
    }

    float constantShare() {
        if (s.nodes.isEmpty()) {
            throw new ArithmeticException();
        }
        return (float) constants().size() / (float) groups().size();
    }

    double meanNodes() {
        if (s.nodes.isEmpty()) {
            throw new ArithmeticException();
        }
        return (double) s.nodes.size() / (double) groups().size();
    }

    boolean isSound() {
        return true;
    }

    @Override
    public String toString() {
        StringBuilder b = new StringBuilder();
        for (int i = 0; i < s.nodes.size(); i++) {
            Node x = s.nodes.get(i);
            b.append(i).append(':').append(x.kind).append(x.number).append(Arrays.toString(x.parts))
                    .append('@').append(s.group.get(i)).append(' ');
        }
        return b.toString();
    }
}
