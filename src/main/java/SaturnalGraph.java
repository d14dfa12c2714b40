import java.util.Arrays;
import java.util.NoSuchElementException;

/** An optimiser by equality saturation. README.md tells how to use it. */
public final class SaturnalGraph {
    private static final int NONE = -1;
    private static final int TERMS = 120;
    private static final int LARGEST_TERM = 400;
    private static final int LARGEST_NUMBER = 99;
    private static final int VARIABLES = 6;
    private static final int ALL_VARIABLES = 63;
    private static final int HOLES = 4;
    private static final int RULES = 12;
    private static final int LARGEST_SIDE = 40;
    private static final int FIRST_LIMIT = 20;
    private static final int LARGEST_LIMIT = 999;
    private static final int NODES = 300;
    private static final int FEWEST_NODES = 10;
    private static final int FIRST_NODES = 200;
    private static final int MOST_ROUNDS = 20;
    private static final int LARGEST_COST = 99;
    private static final int TOP_COST = 1000000;
    private static final int LONGEST_CHAIN = 1000000;
    private static final int LAST_STEP = 999;
    private static final int KEPT = 3;

    // Operators are the kinds from CONTRARY on; those from PLUS on have two parts.
    private static final int NUMBER = 0;
    private static final int VARIABLE = 1;
    private static final int HOLE = 2;
    private static final int CONTRARY = 3;
    private static final int F = 4;
    private static final int PLUS = 5;
    private static final int MINUS = 6;
    private static final int TIMES = 7;
    private static final int KINDS = 9;
    private static final char[] SIGNS = {'n', 'v', 'h', '~', 'f', '+', '-', '*', 'g'};

    // The reason of a link; a rule is told by its number, which is below these.
    private static final int FACT = 100;
    private static final int RECKONING = 101;
    private static final int CONGRUENCE = 102;

    // A pattern of four holes has at most 150 * 150 * 150 * 150 matches in 300 nodes.
    private static final int MOST_MATCHES = 1000000000;
    private static final int MOST_MOVES = 10000000;

    // A set of classes is kept in five longs.
    private static final int SET_WORDS = 5;
    private static final int MOST_WORDS = 1 + HOLES * SET_WORDS;
    private static final int LARGEST_TABLE = (LARGEST_SIDE - 1) * NODES * MOST_WORDS;

    private final Terms terms = new Terms();
    private final int[] left = new int[RULES];
    private final int[] right = new int[RULES];
    private final char[] condition = new char[RULES];
    private int rules = 0;
    private final int[] costs = new int[KINDS];
    private int nodeLimit = FIRST_NODES;
    private final Graph graph = new Graph();
    private final Progress progress = new Progress();
    private final Readings readings = new Readings(graph, costs);
    private final Matcher matcher = new Matcher(terms, graph, readings);
    private final Graph[] keptGraphs = new Graph[KEPT];
    private final Progress[] keptProgress = new Progress[KEPT];
    private int kept = 0;
    private final int[] order = new int[TERMS];
    private final int[] places = new int[TERMS];
    private final boolean[] chosen = new boolean[RULES];
    private boolean heldBack = false;

    public SaturnalGraph() {
        for (int kind = 0; kind < KINDS; kind++) {
            costs[kind] = 1;
        }
        for (int i = 0; i < KEPT; i++) {
            keptGraphs[i] = new Graph();
            keptProgress[i] = new Progress();
        }
    }

    // Terms

    public int number(int value) throws IllegalArgumentException, IllegalStateException {
        if (value < -LARGEST_NUMBER || value > LARGEST_NUMBER) {
            throw new IllegalArgumentException("the number is out of range");
        }
        return addTerm(NUMBER, value, NONE);
    }

    public int variable(int variable) throws IllegalArgumentException, IllegalStateException {
        if (variable < 0 || variable >= VARIABLES) {
            throw new IllegalArgumentException("there is no such variable");
        }
        return addTerm(VARIABLE, variable, NONE);
    }

    public int hole(int hole) throws IllegalArgumentException, IllegalStateException {
        if (hole < 0 || hole >= HOLES) {
            throw new IllegalArgumentException("there is no such hole");
        }
        return addTerm(HOLE, hole, NONE);
    }

    public int one(char operator, int part)
            throws IllegalArgumentException, IndexOutOfBoundsException, IllegalStateException {
        int kind = kindOfOperator(operator);
        if (kind == NONE || kind >= PLUS) {
            throw new IllegalArgumentException("there is no such operator");
        }
        checkTerm(part);
        return addTerm(kind, part, NONE);
    }

    public int two(char operator, int first, int second)
            throws IllegalArgumentException, IndexOutOfBoundsException, IllegalStateException {
        int kind = kindOfOperator(operator);
        if (kind < PLUS) {
            throw new IllegalArgumentException("there is no such operator");
        }
        checkTerm(first);
        checkTerm(second);
        return addTerm(kind, first, second);
    }

    public int terms() {
        return terms.count;
    }

    public int size(int term) throws IndexOutOfBoundsException {
        checkTerm(term);
        return terms.sizes[term];
    }

    public int value(int term, int first, int second)
            throws IndexOutOfBoundsException, UnsupportedOperationException {
        checkTerm(term);
        checkNoHole(term);
        return terms.evaluate(term, VARIABLE, first, second);
    }

    // Rules

    public int rule(int left, int right, char condition)
            throws IndexOutOfBoundsException, IllegalArgumentException,
            UnsupportedOperationException, IllegalStateException {
        checkTerm(left);
        checkTerm(right);
        if (condition != '-' && condition != 'n' && condition != 'z') {
            throw new IllegalArgumentException("there is no such condition");
        }
        if (!terms.canBeSides(left, right) || condition != '-' && (terms.holes[left] & 1) == 0) {
            throw new UnsupportedOperationException("these sides and this condition are no rule");
        }
        if (rules >= RULES) {
            throw new IllegalStateException("there are 12 rules");
        }
        this.left[rules] = left;
        this.right[rules] = right;
        this.condition[rules] = condition;
        rules++;
        return rules - 1;
    }

    public boolean holds(int rule, int first, int second) throws IndexOutOfBoundsException {
        checkRule(rule);
        int leftValue = terms.evaluate(left[rule], HOLE, first, second);
        return leftValue == terms.evaluate(right[rule], HOLE, first, second);
    }

    public int setLimit(int rule, int limit) throws IndexOutOfBoundsException, IllegalArgumentException {
        checkRule(rule);
        if (limit < 1 || limit > LARGEST_LIMIT) {
            throw new IllegalArgumentException("the limit is out of range");
        }
        int before = progress.limits[rule];
        progress.limits[rule] = limit;
        return before;
    }

    public int setNodes(int nodes) throws IllegalArgumentException {
        if (nodes < FEWEST_NODES || nodes > NODES) {
            throw new IllegalArgumentException("the limit is out of range");
        }
        int before = nodeLimit;
        nodeLimit = nodes;
        return before;
    }

    // The graph

    public int put(int term)
            throws IndexOutOfBoundsException, UnsupportedOperationException, IllegalStateException {
        checkTerm(term);
        checkNoHole(term);
        int size = terms.listParts(term, order);
        int countBefore = graph.count;
        boolean dueBefore = graph.due;
        int node = placeListed(size);
        if (node == NONE) {
            graph.count = countBefore;
            graph.due = dueBefore;
            throw new IllegalStateException("there is no room for all new nodes");
        }
        for (int i = 0; i < size; i++) {
            progress.nodeOfTerm[order[i]] = places[order[i]];
        }
        return node;
    }

    public boolean join(int first, int second) throws IndexOutOfBoundsException, NoSuchElementException {
        checkPutIn(first, second);
        return graph.connect(progress.nodeOfTerm[first], progress.nodeOfTerm[second], FACT);
    }

    public boolean areSame(int first, int second) throws IndexOutOfBoundsException, NoSuchElementException {
        checkPutIn(first, second);
        return isOneClass(first, second);
    }

    public boolean isDue() {
        return graph.due;
    }

    public int rebuild() {
        return restore();
    }

    public int nodes() {
        return graph.count;
    }

    public int classes() {
        return graph.countClasses();
    }

    public int classOf(int node) throws IndexOutOfBoundsException {
        checkNode(node);
        return graph.group[node];
    }

    public int nodesIn(int node) throws IndexOutOfBoundsException {
        checkNode(node);
        int found = 0;
        for (int i = 0; i < graph.count; i++) {
            found += graph.group[i] == graph.group[node] ? 1 : 0;
        }
        return found;
    }

    public char kindOf(int node) throws IndexOutOfBoundsException {
        checkNode(node);
        int kind = graph.kind[node];
        return kind >= 0 && kind < KINDS ? SIGNS[kind] : SIGNS[NUMBER];
    }

    public int numberOf(int node) throws IndexOutOfBoundsException, UnsupportedOperationException {
        checkNode(node);
        if (graph.kind[node] >= CONTRARY) {
            throw new UnsupportedOperationException("it has an operator");
        }
        return graph.first[node];
    }

    public int part(int node, int part) throws IndexOutOfBoundsException, NoSuchElementException {
        checkNode(node);
        int parts = partsOf(graph.kind[node]);
        if (part < 0 || part >= parts) {
            throw new NoSuchElementException("there is no such part");
        }
        return part == 0 ? graph.firstKey(node) : graph.secondKey(node);
    }

    public int constant(int node) throws IndexOutOfBoundsException, NoSuchElementException {
        checkNode(node);
        readings.readConstants();
        int group = graph.group[node];
        if (!readings.isKnown(group)) {
            throw new NoSuchElementException("it has no constant");
        }
        return pick(readings.constants, group);
    }

    public int free(int node) throws IndexOutOfBoundsException {
        checkNode(node);
        readings.readFree();
        return pick(readings.frees, graph.group[node]);
    }

    public int clashes() {
        readings.readConstants();
        return readings.countClashes();
    }

    // Rounds

    public int matches(int rule) throws IndexOutOfBoundsException, IllegalStateException {
        checkRule(rule);
        if (graph.due) {
            throw new IllegalStateException("rebuilding is due");
        }
        matcher.freeze();
        matcher.aim(left[rule], condition[rule]);
        return matcher.countUpTo(MOST_MATCHES);
    }

    public int round() {
        return runRound();
    }

    public char saturate(int rounds) throws IllegalArgumentException {
        if (rounds < 1 || rounds > MOST_ROUNDS) {
            throw new IllegalArgumentException("the number of rounds is out of range");
        }
        for (int i = 0; i < rounds; i++) {
            int joined = runRound();
            if (progress.spent) {
                return 'n';
            }
            if (joined == 0 && !heldBack) {
                return 's';
            }
        }
        return 'r';
    }

    public int rounds() {
        return progress.rounds;
    }

    public boolean isSpent() {
        return progress.spent;
    }

    public int banned(int rule) throws IndexOutOfBoundsException {
        checkRule(rule);
        return progress.bannedFor[rule];
    }

    public int applied(int rule) throws IndexOutOfBoundsException {
        checkRule(rule);
        return progress.appliedTimes[rule];
    }

    // Costs

    public int setCost(char operator, int cost) throws IllegalArgumentException {
        int kind = kindOfOperator(operator);
        if (kind == NONE || cost < 1 || cost > LARGEST_COST) {
            throw new IllegalArgumentException("there is no such operator, or the cost is out of range");
        }
        int before = costs[kind];
        costs[kind] = cost;
        return before;
    }

    public int cost(int node) throws IndexOutOfBoundsException {
        checkNode(node);
        readings.readCosts();
        return pick(readings.cheapest, graph.group[node]);
    }

    public int best(int node) throws IndexOutOfBoundsException, NoSuchElementException {
        return bestNode(node);
    }

    public int sharedCost(int node) throws IndexOutOfBoundsException, NoSuchElementException {
        bestNode(node);
        return readings.payOnce(graph.group[node]);
    }

    public int bestValue(int node, int first, int second)
            throws IndexOutOfBoundsException, NoSuchElementException {
        bestNode(node);
        return readings.evaluateBest(graph.group[node], first, second);
    }

    // Chains

    public int why(int first, int second) throws IndexOutOfBoundsException, NoSuchElementException {
        checkOneClass(first, second);
        return graph.chainLength(progress.nodeOfTerm[first], progress.nodeOfTerm[second]);
    }

    public int whyAt(int first, int second, int step) throws IndexOutOfBoundsException, NoSuchElementException {
        checkOneClass(first, second);
        int from = progress.nodeOfTerm[first];
        int to = progress.nodeOfTerm[second];
        if (step < 0 || step > LAST_STEP || step >= graph.chainLength(from, to)) {
            throw new NoSuchElementException("there is no such step");
        }
        return graph.stepOfChain(from, to, step);
    }

    // The stack

    public int push() throws IllegalStateException {
        if (kept >= KEPT) {
            throw new IllegalStateException("3 are kept");
        }
        copyState(graph, progress, keptGraphs[kept], keptProgress[kept]);
        kept++;
        return kept;
    }

    public int pop() throws IllegalStateException {
        if (kept <= 0) {
            throw new IllegalStateException("none is kept");
        }
        kept--;
        copyState(keptGraphs[kept], keptProgress[kept], graph, progress);
        return graph.count;
    }

    // Sums

    public long sum() {
        readings.readCosts();
        long total = 0L;
        for (int i = 0; i < graph.count; i++) {
            total += graph.group[i] == i ? readings.cheapest[i] : 0;
        }
        return total;
    }

    public float constantShare() throws ArithmeticException {
        int all = graph.countClasses();
        if (all == 0) {
            throw new ArithmeticException("there are no classes");
        }
        readings.readConstants();
        int known = 0;
        for (int i = 0; i < graph.count; i++) {
            known += graph.group[i] == i && readings.isKnown(i) ? 1 : 0;
        }
        return (float) known / (float) all;
    }

    public double meanNodes() throws ArithmeticException {
        int all = graph.countClasses();
        if (all == 0) {
            throw new ArithmeticException("there are no classes");
        }
        return (double) graph.count / (double) all;
    }

    public boolean isSound() {
        if (!graph.due && graph.hasAlikeApart() || !graph.hasLinksAsClasses()) {
            return false;
        }
        readings.readCosts();
        return readings.areBestTermsPriced();
    }

    // What several calls check

    private void checkTerm(int term) {
        if (term < 0 || term >= terms.count) {
            throw new IndexOutOfBoundsException("there is no such term");
        }
    }

    private void checkNoHole(int term) {
        if (terms.holes[term] != 0) {
            throw new UnsupportedOperationException("the term has a hole");
        }
    }

    private void checkRule(int rule) {
        if (rule < 0 || rule >= rules) {
            throw new IndexOutOfBoundsException("there is no such rule");
        }
    }

    private void checkNode(int node) {
        if (node < 0 || node >= graph.count) {
            throw new IndexOutOfBoundsException("there is no such node");
        }
    }

    private void checkPutIn(int first, int second) {
        checkTerm(first);
        checkTerm(second);
        if (progress.nodeOfTerm[first] == NONE || progress.nodeOfTerm[second] == NONE) {
            throw new NoSuchElementException("the term was not put into the graph");
        }
    }

    private void checkOneClass(int first, int second) {
        checkPutIn(first, second);
        if (!isOneClass(first, second)) {
            throw new NoSuchElementException("the terms are not in one class");
        }
    }

    private boolean isOneClass(int first, int second) {
        return graph.classAt(progress.nodeOfTerm[first]) == graph.classAt(progress.nodeOfTerm[second]);
    }

    private int bestNode(int node) {
        checkNode(node);
        readings.readCosts();
        int found = pick(readings.bests, graph.group[node]);
        if (found == NONE) {
            throw new NoSuchElementException("it has no best node");
        }
        return found;
    }

    // What several calls do

    private int addTerm(int kind, int first, int second) {
        int size = terms.sizeOfNew(kind, first, second);
        if (terms.count >= TERMS || size > LARGEST_TERM) {
            throw new IllegalStateException("there are 120 terms, or it would be too large");
        }
        return terms.append(kind, first, second, size);
    }

    private void copyState(Graph fromGraph, Progress fromProgress, Graph toGraph, Progress toProgress) {
        if (fromGraph != null && fromProgress != null && toGraph != null && toProgress != null) {
            toGraph.copyFrom(fromGraph);
            toProgress.copyFrom(fromProgress);
        }
    }

    /** Puts the terms listed in 'order' into the graph; a hole is what the matcher found for it. */
    private int placeListed(int size) {
        int node = NONE;
        for (int i = 0; i < size && i < TERMS; i++) {
            int term = order[i];
            int kind = pick(terms.kind, term);
            int first = pick(terms.first, term);
            if (kind == HOLE) {
                node = graph.classAt(pick(matcher.holeClass, first));
            } else if (kind < CONTRARY) {
                node = graph.place(kind, first, NONE, nodeLimit);
            } else {
                node = graph.place(kind, pick(places, first), pick(places, pick(terms.second, term)), nodeLimit);
            }
            if (node == NONE || term < 0 || term >= TERMS) {
                return NONE;
            }
            places[term] = node;
        }
        return node;
    }

    /** Rebuilds, and tells how many nodes were joined. */
    private int restore() {
        int joined = 0;
        boolean again = true;
        // Each turn but the last joins classes, of which there are never more than nodes.
        for (int turn = 0; turn <= 2 * NODES && again; turn++) {
            joined += graph.connectAlike();
            readings.readConstants();
            int reckonings = connectConstants();
            joined += reckonings;
            again = reckonings > 0;
        }
        graph.due = false;
        return joined;
    }

    private int connectConstants() {
        int joined = 0;
        int end = graph.count;
        for (int group = 0; group < end && group < NODES; group++) {
            if (graph.group[group] != group || !readings.isKnown(group)) {
                continue;
            }
            int node = graph.place(NUMBER, readings.constants[group], NONE, nodeLimit);
            if (node != NONE && graph.connect(node, group, RECKONING)) {
                joined++;
            }
        }
        return joined;
    }

    private int runRound() {
        restore();
        progress.rounds++;
        progress.spent = false;
        heldBack = false;
        matcher.freeze();
        chooseRules();
        int joined = 0;
        for (int rule = 0; rule < rules && rule < RULES && !progress.spent; rule++) {
            if (chosen[rule]) {
                joined += applyRule(rule);
            }
        }
        restore();
        return joined;
    }

    private void chooseRules() {
        for (int rule = 0; rule < rules && rule < RULES; rule++) {
            chosen[rule] = false;
            if (progress.bannedFor[rule] > 0) {
                progress.bannedFor[rule]--;
                heldBack = true;
                continue;
            }
            int limit = progress.limits[rule];
            matcher.aim(left[rule], condition[rule]);
            if (matcher.countUpTo(limit + 1) > limit) {
                progress.ban(rule);
                heldBack = true;
            } else {
                chosen[rule] = true;
            }
        }
    }

    /** Finds the matches of the rule once more in the graph as it was, and applies each at once. */
    private int applyRule(int rule) {
        int joined = 0;
        int limit = progress.limits[rule];
        int size = terms.listParts(right[rule], order);
        matcher.aim(left[rule], condition[rule]);
        for (int i = 0; i < limit && matcher.advance(); i++) {
            int node = placeListed(size);
            if (node == NONE) {
                progress.spent = true;
                return joined;
            }
            progress.appliedTimes[rule]++;
            joined += graph.connect(node, matcher.nodeAt[0], rule) ? 1 : 0;
        }
        return joined;
    }

    // Helpers without state

    /** The element, or NONE if there is no such index. */
    private static int pick(int[] row, int index) {
        return index >= 0 && index < row.length ? row[index] : NONE;
    }

    private static int kindOfOperator(char operator) {
        for (int kind = CONTRARY; kind < KINDS; kind++) {
            if (SIGNS[kind] == operator) {
                return kind;
            }
        }
        return NONE;
    }

    private static int partsOf(int kind) {
        return kind >= PLUS ? 2 : kind >= CONTRARY ? 1 : 0;
    }

    private static int reckon(int kind, int first, int second) {
        if (kind == CONTRARY) {
            return -first;
        }
        if (kind == F) {
            return 7 * first + 3;
        }
        if (kind == PLUS) {
            return first + second;
        }
        if (kind == MINUS) {
            return first - second;
        }
        if (kind == TIMES) {
            return first * second;
        }
        return 31 * first + 17 * second;
    }

    private static int pickSetting(int index, int first, int second) {
        return index == 0 ? first : index == 1 ? second : 0;
    }

    /** The terms. The first part of a number, a variable or a hole is its own number. */
    private static final class Terms {
        final int[] kind = new int[TERMS];
        final int[] first = new int[TERMS];
        final int[] second = new int[TERMS];
        final int[] sizes = new int[TERMS];
        final int[] holes = new int[TERMS];
        final int[] values = new int[TERMS];
        final int[] stack = new int[TERMS];
        final boolean[] listed = new boolean[TERMS];
        int count = 0;

        int sizeOfNew(int kind, int first, int second) {
            int size = 1;
            if (kind >= CONTRARY) {
                size += pick(sizes, first);
            }
            if (kind >= PLUS) {
                size += pick(sizes, second);
            }
            return size;
        }

        int append(int kind, int first, int second, int size) {
            if (count < 0 || count >= TERMS) {
                return NONE;
            }
            int term = count;
            this.kind[term] = kind;
            this.first[term] = first;
            this.second[term] = second;
            sizes[term] = size;
            if (kind == HOLE) {
                holes[term] = 1 << first;
            } else {
                holes[term] = kind >= CONTRARY ? pick(holes, first) : 0;
                holes[term] |= kind >= PLUS ? pick(holes, second) : 0;
            }
            count++;
            return term;
        }

        boolean canBeSides(int left, int right) {
            return pick(kind, left) >= CONTRARY
                    && pick(sizes, left) <= LARGEST_SIDE
                    && pick(sizes, right) <= LARGEST_SIDE
                    && (pick(holes, right) & ~pick(holes, left)) == 0;
        }

        /** The value; those of the kind that is set are 'zero' and 'one' for 0 and 1, all else is 0. */
        int evaluate(int term, int setKind, int zero, int one) {
            // Parts have lower numbers, so each value is there before it is used.
            for (int i = 0; i <= term && i < count; i++) {
                if (kind[i] == NUMBER) {
                    values[i] = first[i];
                } else if (kind[i] < CONTRARY) {
                    values[i] = kind[i] == setKind ? pickSetting(first[i], zero, one) : 0;
                } else {
                    values[i] = reckon(kind[i], pick(values, first[i]), pick(values, second[i]));
                }
            }
            return pick(values, term);
        }

        /** Lists a term and its parts, each once, in the order in which they are put into the graph. */
        int listParts(int term, int[] order) {
            for (int i = 0; i < TERMS; i++) {
                listed[i] = false;
            }
            int found = 0;
            int depth = 1;
            stack[0] = term;
            // Each term is stacked once and listed once.
            for (int step = 0; step < 2 * TERMS && depth > 0 && depth <= TERMS; step++) {
                int top = stack[depth - 1];
                int part = nextPart(top);
                if (part != NONE && depth < TERMS) {
                    stack[depth] = part;
                    depth++;
                } else {
                    depth--;
                    if (top >= 0 && top < TERMS && found < order.length) {
                        listed[top] = true;
                        order[found] = top;
                        found++;
                    }
                }
            }
            return found;
        }

        private int nextPart(int term) {
            int parts = partsOf(pick(kind, term));
            if (parts > 0 && !isListed(pick(first, term))) {
                return pick(first, term);
            }
            if (parts > 1 && !isListed(pick(second, term))) {
                return pick(second, term);
            }
            return NONE;
        }

        private boolean isListed(int term) {
            return term < 0 || term >= TERMS || listed[term];
        }
    }

    /**
     * Nodes, their classes, and the links. The links are kept as trees, one for each class: each node
     * but a root has a link to its parent. 'first' of a number or a variable is its own number.
     */
    private static final class Graph {
        final int[] kind = new int[NODES];
        final int[] first = new int[NODES];
        final int[] second = new int[NODES];
        final int[] group = new int[NODES];
        final int[] parent = new int[NODES];
        final int[] reason = new int[NODES];
        final int[] length = new int[NODES];
        int count = 0;
        boolean due = false;

        void copyFrom(Graph other) {
            System.arraycopy(other.kind, 0, kind, 0, NODES);
            System.arraycopy(other.first, 0, first, 0, NODES);
            System.arraycopy(other.second, 0, second, 0, NODES);
            System.arraycopy(other.group, 0, group, 0, NODES);
            System.arraycopy(other.parent, 0, parent, 0, NODES);
            System.arraycopy(other.reason, 0, reason, 0, NODES);
            System.arraycopy(other.length, 0, length, 0, NODES);
            count = other.count;
            due = other.due;
        }

        int classAt(int node) {
            return node >= 0 && node < count ? group[node] : NONE;
        }

        int countClasses() {
            int found = 0;
            for (int i = 0; i < count; i++) {
                found += group[i] == i ? 1 : 0;
            }
            return found;
        }

        /** The number, the variable, or the class of the first part. */
        int firstKey(int node) {
            if (node < 0 || node >= count) {
                return NONE;
            }
            int own = first[node];
            if (kind[node] < CONTRARY) {
                return own;
            }
            return own >= 0 && own < count ? group[own] : NONE;
        }

        int secondKey(int node) {
            if (node < 0 || node >= count || kind[node] < PLUS) {
                return NONE;
            }
            int own = second[node];
            return own >= 0 && own < count ? group[own] : NONE;
        }

        /** The lowest node below 'end' that is alike to one of this kind and these keys. */
        int lowestAlike(int likeKind, int likeFirst, int likeSecond, int end) {
            for (int i = 0; i < end && i < count; i++) {
                if (kind[i] == likeKind && firstKey(i) == likeFirst && secondKey(i) == likeSecond) {
                    return i;
                }
            }
            return NONE;
        }

        /** Finds or makes a node; NONE if a new one would have no room. The parts are nodes. */
        int place(int newKind, int newFirst, int newSecond, int limit) {
            int ownFirst = newKind >= CONTRARY ? pick(group, newFirst) : newFirst;
            int ownSecond = newKind >= PLUS ? pick(group, newSecond) : NONE;
            int found = lowestAlike(newKind, ownFirst, ownSecond, count);
            if (found != NONE) {
                return found;
            }
            if (count < 0 || count >= limit || count >= NODES) {
                return NONE;
            }
            int node = count;
            kind[node] = newKind;
            // The number of a class is its lowest node, which becomes the part.
            first[node] = ownFirst;
            second[node] = ownSecond;
            group[node] = node;
            parent[node] = NONE;
            count++;
            due = true;
            return node;
        }

        /** Joins two nodes, unless they are in one class. */
        boolean connect(int one, int other, int why) {
            int oneClass = classAt(one);
            int otherClass = classAt(other);
            if (oneClass == otherClass || oneClass == NONE || otherClass == NONE) {
                return false;
            }
            int steps = why != CONGRUENCE ? 1 : Math.min(LONGEST_CHAIN,
                    chainLength(pick(first, one), pick(first, other))
                    + chainLength(pick(second, one), pick(second, other)));
            makeRoot(one);
            parent[one] = other;
            reason[one] = why;
            length[one] = steps;
            int low = Math.min(oneClass, otherClass);
            int high = Math.max(oneClass, otherClass);
            for (int i = high; i < count; i++) {
                group[i] = group[i] == high ? low : group[i];
            }
            due = true;
            return true;
        }

        /** Turns the links on the way from a node to its root round. */
        private void makeRoot(int node) {
            int child = node;
            int above = NONE;
            int oldReason = 0;
            int oldLength = 0;
            for (int step = 0; step < NODES && child >= 0 && child < count; step++) {
                int next = parent[child];
                int nextReason = reason[child];
                int nextLength = length[child];
                parent[child] = above;
                reason[child] = oldReason;
                length[child] = oldLength;
                above = child;
                oldReason = nextReason;
                oldLength = nextLength;
                child = next;
            }
        }

        /** Joins by congruence until nothing is joined any more, and tells how many were. */
        int connectAlike() {
            int joined = 0;
            boolean again = true;
            for (int turn = 0; turn <= NODES && again; turn++) {
                again = false;
                for (int i = 0; i < count; i++) {
                    int low = lowestAlike(kind[i], firstKey(i), secondKey(i), i);
                    if (low != NONE && connect(i, low, CONGRUENCE)) {
                        joined++;
                        again = true;
                    }
                }
            }
            return joined;
        }

        /** The lowest node that lies on both ways to the root, NONE if there is none. */
        private int meeting(int one, int other) {
            int oneDepth = 0;
            int otherDepth = 0;
            for (int i = one; oneDepth <= NODES && i >= 0 && i < count; i = parent[i]) {
                oneDepth++;
            }
            for (int i = other; otherDepth <= NODES && i >= 0 && i < count; i = parent[i]) {
                otherDepth++;
            }
            int a = one;
            int b = other;
            for (int step = 0; step <= 2 * NODES && a != b; step++) {
                if (a < 0 || a >= count || b < 0 || b >= count) {
                    return NONE;
                }
                if (oneDepth >= otherDepth) {
                    a = parent[a];
                    oneDepth--;
                } else {
                    b = parent[b];
                    otherDepth--;
                }
            }
            return a == b ? a : NONE;
        }

        /** How many steps the links on the way up from a node to one above it have. */
        private int climb(int node, int top) {
            int steps = 0;
            int at = node;
            for (int i = 0; i < NODES && at != top && at >= 0 && at < count; i++) {
                steps += length[at];
                at = parent[at];
            }
            return steps;
        }

        int chainLength(int from, int to) {
            int top = meeting(from, to);
            if (top == NONE) {
                return 0;
            }
            return Math.min(LONGEST_CHAIN, climb(from, top) + climb(to, top));
        }

        /** The rule, fact or reckoning that is a step of a chain; the step must be one of it. */
        int stepOfChain(int from, int to, int step) {
            int start = from;
            int end = to;
            int rest = step;
            // Parts became one before the nodes did, so that each turn leads to an older link.
            for (int turn = 0; turn <= NODES; turn++) {
                int top = meeting(start, end);
                int up = climb(start, top);
                boolean isUp = rest < up;
                int child = isUp ? linkUp(start, rest) : linkDown(end, top, rest - up);
                int above = pick(parent, child);
                if (above == NONE || reason[child] != CONGRUENCE) {
                    return pick(reason, child);
                }
                rest -= isUp ? climb(start, child) : up + climb(above, top);
                int source = isUp ? child : above;
                int target = isUp ? above : child;
                int firstSteps = chainLength(pick(first, source), pick(first, target));
                boolean isInFirst = rest < firstSteps;
                rest -= isInFirst ? 0 : firstSteps;
                start = pick(isInFirst ? first : second, source);
                end = pick(isInFirst ? first : second, target);
            }
            return NONE;
        }

        /** The node, on the way up from one, whose link to its parent has the step in it. */
        private int linkUp(int from, int step) {
            int at = from;
            int rest = step;
            for (int i = 0; i < NODES && at >= 0 && at < count && rest >= length[at]; i++) {
                rest -= length[at];
                at = parent[at];
            }
            return at;
        }

        /** The same on the way down from 'top' to 'to'. */
        private int linkDown(int to, int top, int step) {
            int at = to;
            int before = climb(to, top);
            for (int i = 0; i < NODES && at >= 0 && at < count; i++) {
                before -= length[at];
                if (step >= before) {
                    return at;
                }
                at = parent[at];
            }
            return NONE;
        }

        boolean hasAlikeApart() {
            for (int i = 0; i < count; i++) {
                int low = lowestAlike(kind[i], firstKey(i), secondKey(i), i);
                if (low != NONE && classAt(low) != group[i]) {
                    return true;
                }
            }
            return false;
        }

        boolean hasLinksAsClasses() {
            for (int i = 0; i < count; i++) {
                int root = rootOf(i);
                if (classAt(root) != group[i] || rootOf(group[i]) != root) {
                    return false;
                }
            }
            return true;
        }

        private int rootOf(int node) {
            int at = node;
            for (int step = 0; step < NODES && pick(parent, at) != NONE; step++) {
                at = pick(parent, at);
            }
            return at;
        }
    }

    /** What push() keeps beside the graph. */
    private static final class Progress {
        final int[] nodeOfTerm = new int[TERMS];
        final int[] limits = new int[RULES];
        final int[] bannedFor = new int[RULES];
        final int[] bans = new int[RULES];
        final int[] appliedTimes = new int[RULES];
        int rounds = 0;
        boolean spent = false;

        Progress() {
            // A rule or a term that is not there yet is as a new one, also behind pop().
            Arrays.fill(nodeOfTerm, NONE);
            Arrays.fill(limits, FIRST_LIMIT);
        }

        void copyFrom(Progress other) {
            System.arraycopy(other.nodeOfTerm, 0, nodeOfTerm, 0, TERMS);
            System.arraycopy(other.limits, 0, limits, 0, RULES);
            System.arraycopy(other.bannedFor, 0, bannedFor, 0, RULES);
            System.arraycopy(other.bans, 0, bans, 0, RULES);
            System.arraycopy(other.appliedTimes, 0, appliedTimes, 0, RULES);
            rounds = other.rounds;
            spent = other.spent;
        }

        void ban(int rule) {
            if (rule >= 0 && rule < RULES) {
                bannedFor[rule] = 1 << bans[rule];
                bans[rule]++;
                limits[rule] *= 2;
            }
        }
    }

    /** What rides on classes. Each is found anew by a call that begins with 'read'. */
    private static final class Readings {
        final Graph graph;
        final int[] costs;
        final int[] heads = new int[NODES];
        final int[] next = new int[NODES];
        final boolean[] known = new boolean[NODES];
        final int[] constants = new int[NODES];
        final int[] frees = new int[NODES];
        final int[] cheapest = new int[NODES];
        final int[] bests = new int[NODES];
        final int[] order = new int[NODES];
        final boolean[] marked = new boolean[NODES];
        final int[] worth = new int[NODES];

        Readings(Graph graph, int[] costs) {
            this.graph = graph;
            this.costs = costs;
        }

        /** Sets 'next' to the next node of the class, by rising numbers. */
        private void listMembers() {
            Arrays.fill(heads, NONE);
            for (int i = graph.count - 1; i >= 0; i--) {
                int group = graph.classAt(i);
                next[i] = pick(heads, group);
                if (isClass(group)) {
                    heads[group] = i;
                }
            }
        }

        private boolean isClass(int group) {
            return group >= 0 && group < NODES;
        }

        boolean isKnown(int group) {
            return group >= 0 && group < NODES && known[group];
        }

        void readConstants() {
            listMembers();
            for (int i = 0; i < NODES; i++) {
                known[i] = false;
            }
            boolean again = true;
            for (int turn = 0; turn <= NODES && again; turn++) {
                again = false;
                for (int group = 0; group < graph.count; group++) {
                    if (graph.group[group] == group && !known[group] && findConstant(group)) {
                        again = true;
                    }
                }
            }
        }

        private boolean findConstant(int group) {
            if (!isClass(group)) {
                return false;
            }
            int node = group;
            for (int i = 0; i < NODES && node != NONE; i++) {
                if (isReckoned(node)) {
                    constants[group] = reckoned(node);
                    known[group] = true;
                    return true;
                }
                node = pick(next, node);
            }
            return false;
        }

        private boolean isReckoned(int node) {
            int kind = pick(graph.kind, node);
            if (kind == NUMBER) {
                return true;
            }
            if (kind != CONTRARY && kind != PLUS && kind != MINUS && kind != TIMES) {
                return false;
            }
            return isKnown(graph.firstKey(node)) && (kind == CONTRARY || isKnown(graph.secondKey(node)));
        }

        private int reckoned(int node) {
            int kind = pick(graph.kind, node);
            if (kind == NUMBER) {
                return graph.firstKey(node);
            }
            return reckon(kind, pick(constants, graph.firstKey(node)), pick(constants, graph.secondKey(node)));
        }

        int countClashes() {
            for (int i = 0; i < NODES; i++) {
                marked[i] = false;
            }
            int found = 0;
            for (int i = 0; i < graph.count; i++) {
                int group = graph.classAt(i);
                // The constant is the number of one of the nodes, so that an unlike one is enough.
                if (isKnown(group) && !marked[group] && isReckoned(i) && reckoned(i) != constants[group]) {
                    marked[group] = true;
                    found++;
                }
            }
            return found;
        }

        void readFree() {
            Arrays.fill(frees, ALL_VARIABLES);
            boolean again = true;
            for (int turn = 0; turn <= VARIABLES * NODES && again; turn++) {
                again = false;
                for (int i = 0; i < graph.count; i++) {
                    int group = graph.classAt(i);
                    if (isClass(group) && (frees[group] & ~freeOfNode(i)) != 0) {
                        frees[group] &= freeOfNode(i);
                        again = true;
                    }
                }
            }
        }

        private int freeOfNode(int node) {
            int kind = pick(graph.kind, node);
            int key = graph.firstKey(node);
            if (kind == VARIABLE) {
                return 1 << key;
            }
            if (kind < CONTRARY) {
                return 0;
            }
            return pick(frees, key) | (kind >= PLUS ? pick(frees, graph.secondKey(node)) : 0);
        }

        void readCosts() {
            Arrays.fill(cheapest, TOP_COST);
            Arrays.fill(bests, NONE);
            boolean again = true;
            for (int turn = 0; turn <= NODES && again; turn++) {
                again = false;
                for (int i = 0; i < graph.count; i++) {
                    int group = graph.classAt(i);
                    int cost = costOfNode(i, cheapest);
                    if (isClass(group) && cost < cheapest[group]) {
                        cheapest[group] = cost;
                        again = true;
                    }
                }
            }
            for (int i = graph.count - 1; i >= 0; i--) {
                int group = graph.classAt(i);
                int cost = costOfNode(i, cheapest);
                if (isClass(group) && cost < TOP_COST && cost == cheapest[group]) {
                    bests[group] = i;
                }
            }
        }

        private int ownCost(int node) {
            int kind = pick(graph.kind, node);
            return kind >= CONTRARY ? pick(costs, kind) : 1;
        }

        private int costOfNode(int node, int[] costOfClass) {
            int parts = partsOf(pick(graph.kind, node));
            int cost = ownCost(node);
            cost += parts > 0 ? pick(costOfClass, graph.firstKey(node)) : 0;
            cost += parts > 1 ? pick(costOfClass, graph.secondKey(node)) : 0;
            return Math.min(cost, TOP_COST);
        }

        /** Lists the classes with a best term, each behind those of its parts. */
        private int orderBests() {
            for (int i = 0; i < NODES; i++) {
                marked[i] = false;
            }
            int found = 0;
            boolean again = true;
            for (int turn = 0; turn <= NODES && again; turn++) {
                again = false;
                for (int group = 0; group < graph.count; group++) {
                    if (!marked[group] && bests[group] != NONE && arePartsMarked(bests[group]) && found < NODES) {
                        marked[group] = true;
                        order[found] = group;
                        found++;
                        again = true;
                    }
                }
            }
            return found;
        }

        private boolean arePartsMarked(int node) {
            int parts = partsOf(pick(graph.kind, node));
            return (parts < 1 || isMarked(graph.firstKey(node)))
                    && (parts < 2 || isMarked(graph.secondKey(node)));
        }

        private boolean isMarked(int group) {
            return group >= 0 && group < NODES && marked[group];
        }

        private void mark(int group) {
            if (isClass(group)) {
                marked[group] = true;
            }
        }

        int evaluateBest(int target, int zero, int one) {
            int found = orderBests();
            for (int i = 0; i < found && i < NODES; i++) {
                int group = order[i];
                if (isClass(group)) {
                    worth[group] = worthOfNode(bests[group], zero, one);
                }
            }
            return pick(worth, target);
        }

        private int worthOfNode(int node, int zero, int one) {
            int kind = pick(graph.kind, node);
            int first = graph.firstKey(node);
            if (kind == NUMBER) {
                return first;
            }
            if (kind == VARIABLE) {
                return pickSetting(first, zero, one);
            }
            return reckon(kind, pick(worth, first), pick(worth, graph.secondKey(node)));
        }

        /** The cost of the best term of a class, each class in it paid once. */
        int payOnce(int target) {
            int found = orderBests();
            for (int i = 0; i < NODES; i++) {
                marked[i] = false;
            }
            mark(target);
            int paid = 0;
            for (int i = Math.min(found, NODES) - 1; i >= 0; i--) {
                int group = order[i];
                if (!isMarked(group)) {
                    continue;
                }
                int node = pick(bests, group);
                int parts = partsOf(pick(graph.kind, node));
                paid += ownCost(node);
                mark(parts > 0 ? graph.firstKey(node) : NONE);
                mark(parts > 1 ? graph.secondKey(node) : NONE);
            }
            return paid;
        }

        boolean areBestTermsPriced() {
            int found = orderBests();
            for (int i = 0; i < found && i < NODES; i++) {
                int group = order[i];
                if (!isClass(group)) {
                    return false;
                }
                worth[group] = costOfNode(bests[group], worth);
                if (worth[group] != cheapest[group]) {
                    return false;
                }
            }
            for (int i = 0; i < graph.count; i++) {
                if (bests[i] != NONE && !marked[i]) {
                    return false;
                }
            }
            return true;
        }
    }

    /**
     * The graph as it was when matches were sought, so that they can be found again, one by one, while
     * they are applied. Of alike nodes only the lowest is kept: the others match no more than it does.
     */
    private static final class Frozen {
        final int[] group = new int[NODES];
        final int[] firstGroup = new int[NODES];
        final int[] secondGroup = new int[NODES];
        final int[] leading = new int[KINDS * NODES];
        final int[] following = new int[NODES];
        final boolean[] known = new boolean[NODES];
        final int[] constants = new int[NODES];
        int count = 0;

        void take(Graph graph, Readings readings) {
            count = graph.count;
            Arrays.fill(leading, NONE);
            for (int i = graph.count - 1; i >= 0; i--) {
                int kind = pick(graph.kind, i);
                group[i] = graph.classAt(i);
                firstGroup[i] = graph.firstKey(i);
                secondGroup[i] = graph.secondKey(i);
                known[i] = readings.isKnown(i);
                constants[i] = readings.constants[i];
                following[i] = NONE;
                boolean isLowest = graph.lowestAlike(kind, firstGroup[i], secondGroup[i], i) == NONE;
                int index = kind * NODES + group[i];
                if (isLowest && kind >= CONTRARY && index >= 0 && index < leading.length) {
                    following[i] = leading[index];
                    leading[index] = i;
                }
            }
        }

        /** The lowest node of this operator in the class. */
        int firstOf(int kind, int ofGroup) {
            int index = kind * NODES + ofGroup;
            return ofGroup >= 0 && ofGroup < count && index >= 0 && index < leading.length ? leading[index] : NONE;
        }

        boolean fits(int ofGroup, char condition) {
            if (ofGroup < 0 || ofGroup >= NODES) {
                return false;
            }
            return condition == '-' || known[ofGroup] && (condition == 'n' || constants[ofGroup] != 0);
        }
    }

    /**
     * The left term of a rule, a position for each sign of it; parts stand behind their operator. For a
     * number or a variable, 'firstAt' is the class in which it is; for a hole, its number.
     */
    private static final class Pattern {
        final int[] termAt = new int[LARGEST_SIDE];
        final int[] kindAt = new int[LARGEST_SIDE];
        final int[] firstAt = new int[LARGEST_SIDE];
        final int[] secondAt = new int[LARGEST_SIDE];
        final int[] rowAt = new int[LARGEST_SIDE];
        final int[] operatorAt = new int[LARGEST_SIDE];
        final int[] stands = new int[HOLES];
        final int[] wordOf = new int[HOLES];
        final boolean[] fits = new boolean[NODES];
        int operators = 0;
        int words = 0;

        void take(int term, char condition, Terms terms, Graph graph, Frozen frozen) {
            int size = Math.min(LARGEST_SIDE, pick(terms.sizes, term));
            Arrays.fill(stands, 0);
            operators = 0;
            termAt[0] = term;
            for (int at = 0; at < size; at++) {
                int kind = pick(terms.kind, termAt[at]);
                kindAt[at] = kind;
                secondAt[at] = NONE;
                if (kind >= CONTRARY) {
                    takeOperator(at, terms);
                } else {
                    takeLeaf(at, terms, graph, frozen);
                }
            }
            for (int group = 0; group < frozen.count; group++) {
                fits[group] = frozen.fits(group, condition);
            }
            words = 1;
            for (int hole = 0; hole < HOLES; hole++) {
                wordOf[hole] = stands[hole] > 1 ? words : 0;
                words += stands[hole] > 1 ? SET_WORDS : 0;
            }
        }

        private void takeOperator(int at, Terms terms) {
            if (at < 0 || at >= LARGEST_SIDE || operators >= LARGEST_SIDE) {
                return;
            }
            int term = termAt[at];
            int first = pick(terms.first, term);
            rowAt[at] = operators;
            operatorAt[operators] = at;
            operators++;
            firstAt[at] = at + 1;
            setTerm(at + 1, first);
            if (kindAt[at] >= PLUS) {
                secondAt[at] = at + 1 + pick(terms.sizes, first);
                setTerm(secondAt[at], pick(terms.second, term));
            }
        }

        private void setTerm(int at, int term) {
            if (at >= 0 && at < LARGEST_SIDE) {
                termAt[at] = term;
            }
        }

        private void takeLeaf(int at, Terms terms, Graph graph, Frozen frozen) {
            if (at < 0 || at >= LARGEST_SIDE) {
                return;
            }
            int own = pick(terms.first, termAt[at]);
            if (kindAt[at] == HOLE) {
                firstAt[at] = own;
                if (own >= 0 && own < HOLES) {
                    stands[own]++;
                }
            } else {
                firstAt[at] = pick(frozen.group, graph.lowestAlike(kindAt[at], own, NONE, frozen.count));
            }
        }
    }

    /**
     * Finds matches one by one, in their order. So that no time is lost on choices that lead nowhere, a
     * row of words goes with each operator of the pattern and each class: word 0 is 0 if the class can't
     * match there; for each hole that stands more than once, five words are the set of classes that it
     * can be then.
     */
    private static final class Matcher {
        final Terms terms;
        final Graph graph;
        final Readings readings;
        final Frozen frozen = new Frozen();
        final Pattern pattern = new Pattern();
        final int[] nodeAt = new int[LARGEST_SIDE];
        final int[] classAt = new int[LARGEST_SIDE];
        final int[] holeClass = new int[HOLES];
        // Row 0 is open for all; the row behind that of an operator is what its choice leaves open.
        final long[] open = new long[(LARGEST_SIDE + 1) * MOST_WORDS];
        long[] table = new long[0];
        boolean isStarted = false;
        boolean isOver = true;

        Matcher(Terms terms, Graph graph, Readings readings) {
            this.terms = terms;
            this.graph = graph;
            this.readings = readings;
            Arrays.fill(open, 0, MOST_WORDS, -1L);
        }

        /** Keeps the graph as it is; it must have been rebuilt. */
        void freeze() {
            readings.readConstants();
            frozen.take(graph, readings);
        }

        /** Prepares for the matches of a left term in the frozen graph. */
        void aim(int left, char condition) {
            pattern.take(left, condition, terms, graph, frozen);
            isStarted = false;
            isOver = pattern.operators == 0;
            makeTable();
            for (int row = pattern.operators - 1; row > 0; row--) {
                fillRow(row);
            }
        }

        /** The table grows with the rules, since most of them need little of it. */
        private void makeTable() {
            int needed = (pattern.operators - 1) * NODES * pattern.words;
            if (needed > table.length && needed <= LARGEST_TABLE) {
                table = new long[Math.min(LARGEST_TABLE, Math.max(needed, 2 * table.length))];
            }
        }

        private void fillRow(int row) {
            int at = pick(pattern.operatorAt, row);
            int words = Math.min(MOST_WORDS, pattern.words);
            for (int group = 0; group < frozen.count; group++) {
                int index = ((row - 1) * NODES + group) * words;
                if (index < 0 || index + words > table.length) {
                    return;
                }
                Arrays.fill(table, index, index + words, 0L);
                int node = frozen.firstOf(pick(pattern.kindAt, at), group);
                for (int i = 0; i < NODES && node != NONE; i++) {
                    if (narrow(0, 1, at, node)) {
                        for (int word = 0; word < words; word++) {
                            table[index + word] |= open[MOST_WORDS + word];
                        }
                    }
                    node = pick(frozen.following, node);
                }
            }
        }

        /** Writes into a row what is left open of the one above if a node is chosen. */
        private boolean narrow(int above, int row, int at, int node) {
            if (above < 0 || above > LARGEST_SIDE || row < 0 || row > LARGEST_SIDE) {
                return false;
            }
            int first = pick(pattern.firstAt, at);
            int second = pick(pattern.secondAt, at);
            int firstGroup = pick(frozen.firstGroup, node);
            int secondGroup = pick(frozen.secondGroup, node);
            for (int word = 0; word < pattern.words && word < MOST_WORDS; word++) {
                long left = open[above * MOST_WORDS + word] & allowed(first, firstGroup, word);
                if (second != NONE) {
                    left &= allowed(second, secondGroup, word);
                }
                open[row * MOST_WORDS + word] = left;
            }
            return isOpen(row);
        }

        private long allowed(int at, int group, int word) {
            if (at < 0 || at >= LARGEST_SIDE || group < 0 || group >= NODES) {
                return 0L;
            }
            int kind = pattern.kindAt[at];
            if (kind >= CONTRARY) {
                int index = ((pattern.rowAt[at] - 1) * NODES + group) * pattern.words + word;
                return index >= 0 && index < table.length ? table[index] : 0L;
            }
            int own = pattern.firstAt[at];
            if (kind != HOLE) {
                return own == group ? -1L : 0L;
            }
            if (own < 0 || own >= HOLES || own == 0 && !pattern.fits[group]) {
                return 0L;
            }
            int from = pattern.wordOf[own];
            if (from == 0 || word < from || word >= from + SET_WORDS) {
                return -1L;
            }
            return word - from == group >> 6 ? 1L << (group & 63) : 0L;
        }

        private boolean isOpen(int row) {
            int start = row * MOST_WORDS;
            if (row < 0 || row > LARGEST_SIDE || open[start] == 0L) {
                return false;
            }
            for (int from = 1; from < pattern.words && from + SET_WORDS <= MOST_WORDS; from += SET_WORDS) {
                long any = 0L;
                for (int word = from; word < from + SET_WORDS; word++) {
                    any |= open[start + word];
                }
                if (any == 0L) {
                    return false;
                }
            }
            return true;
        }

        int countUpTo(int most) {
            for (int found = 0; found < most; found++) {
                if (!advance()) {
                    return found;
                }
            }
            return most;
        }

        /** Goes to the next match; then 'nodeAt[0]' is its node, and 'holeClass' tells its holes. */
        boolean advance() {
            if (isOver) {
                return false;
            }
            int last = pattern.operators - 1;
            int row = isStarted ? last : 0;
            boolean isFresh = !isStarted;
            isStarted = true;
            for (int move = 0; move < MOST_MOVES && row >= 0; move++) {
                if (!choose(row, isFresh)) {
                    row--;
                    isFresh = false;
                } else if (row == last) {
                    return true;
                } else {
                    row++;
                    isFresh = true;
                }
            }
            isOver = true;
            return false;
        }

        /** Chooses the next node for an operator of the pattern. */
        private boolean choose(int row, boolean isFresh) {
            if (row < 0 || row >= LARGEST_SIDE) {
                return false;
            }
            int at = pattern.operatorAt[row];
            int node = candidate(row, isFresh);
            for (int i = 0; i < NODES && node != NONE; i++) {
                nodeAt[row] = node;
                if (narrow(row, row + 1, at, node)) {
                    setClass(pick(pattern.firstAt, at), pick(frozen.firstGroup, node));
                    setClass(pick(pattern.secondAt, at), pick(frozen.secondGroup, node));
                    return true;
                }
                node = candidate(row, false);
            }
            return false;
        }

        private int candidate(int row, boolean isFresh) {
            int at = pick(pattern.operatorAt, row);
            int kind = pick(pattern.kindAt, at);
            if (row > 0) {
                return isFresh ? frozen.firstOf(kind, pick(classAt, at)) : pick(frozen.following, pick(nodeAt, row));
            }
            int node = isFresh ? NONE : pick(frozen.following, nodeAt[0]);
            int group = isFresh ? 0 : pick(frozen.group, nodeAt[0]) + 1;
            for (int next = group; node == NONE && next < frozen.count; next++) {
                node = frozen.firstOf(kind, next);
            }
            return node;
        }

        private void setClass(int at, int group) {
            if (at < 0 || at >= LARGEST_SIDE) {
                return;
            }
            classAt[at] = group;
            int own = pattern.firstAt[at];
            if (pattern.kindAt[at] == HOLE && own >= 0 && own < HOLES) {
                holeClass[own] = group;
            }
        }
    }
}
