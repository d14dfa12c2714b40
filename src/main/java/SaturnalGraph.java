import java.util.Arrays;
import java.util.NoSuchElementException;

/** An optimiser by equality saturation. README.md tells how to use it. */
public final class SaturnalGraph {
    private static final int NONE = -1;
    private static final int TERMS = 120;
    private static final int LARGEST_TERM = 400;
    private static final int LARGEST_NUMBER = 99;
    private static final int VARIABLES = 6;
    private static final int ALL_VARIABLES = 63;
    private static final int HOLES = 4;
    private static final int RULES = 12;
    private static final int LARGEST_SIDE = 40;
    private static final int FIRST_LIMIT = 20;
    private static final int LARGEST_LIMIT = 999;
    private static final int NODES = 300;
    private static final int FEWEST_NODES = 10;
    private static final int FIRST_NODES = 200;
    private static final int MOST_ROUNDS = 20;
    private static final int LARGEST_COST = 99;
    private static final int TOP_COST = 1000000;
    private static final int LONGEST_CHAIN = 1000000;
    private static final int LAST_STEP = 999;
    private static final int KEPT = 3;

    // Operators are the kinds from CONTRARY on; those from PLUS on have two parts.
    private static final int NUMBER = 0;
    private static final int VARIABLE = 1;
    private static final int HOLE = 2;
    private static final int CONTRARY = 3;
    private static final int F = 4;
    private static final int PLUS = 5;
    private static final int MINUS = 6;
    private static final int TIMES = 7;
    private static final int KINDS = 9;
    private static final char[] SIGNS = {'n', 'v', 'h', '~', 'f', '+', '-', '*', 'g'};

    // The reason of a link; a rule is told by its number, which is below these.
    private static final int FACT = 100;
    private static final int RECKONING = 101;
    private static final int CONGRUENCE = 102;

    // Four holes have at most 300 * 300 * 300 * 300 matches, since these tell the class.
    private static final long MOST_MATCHES = 8100000000L;
    private static final int LARGEST_INT = 2147483647;

    // The search for matches: its sets are of classes or of entries, kept in five longs each.
    private static final int SET_WORDS = 5;
    private static final int SLOTS = 2 * LARGEST_SIDE;
    private static final int LEVELS = HOLES + 1;
    private static final int ALIVE_SETS = 0;
    private static final int HOLE_SETS = ALIVE_SETS + LEVELS * LARGEST_SIDE;
    private static final int BUILT_SETS = HOLE_SETS + LEVELS * HOLES;
    private static final int WANTED_SETS = BUILT_SETS + LARGEST_SIDE;
    private static final int LEAF_SETS = WANTED_SETS + SLOTS;
    private static final int KEY_SET = LEAF_SETS + SLOTS;
    private static final int FIRST_SETS = KEY_SET + 1;
    private static final int SECOND_SETS = FIRST_SETS + NODES;
    private static final int GROUP_SETS = SECOND_SETS + NODES;
    private static final int REMEMBERED_SETS = GROUP_SETS + NODES;
    private static final int ROOM_TO_REMEMBER = 10000;
    private static final int MOST_REMEMBERED = 1024;
    private static final int SETS = REMEMBERED_SETS + ROOM_TO_REMEMBER;

    // How much the list of matches has room for: first, and when it has grown.
    private static final int FIRST_FINDS = 128;
    private static final int FIRST_ENTRIES = 1024;
    private static final int LARGEST_ENTRIES = 262144;

    private final Terms terms = new Terms();
    private final int[] left = new int[RULES];
    private final int[] right = new int[RULES];
    private final char[] condition = new char[RULES];
    private int rules = 0;
    private final int[] costs = new int[KINDS];
    private int nodeLimit = FIRST_NODES;
    private final Graph graph = new Graph();
    private final Progress progress = new Progress();
    private final Readings readings = new Readings(graph, costs);
    private final Matcher matcher = new Matcher(terms, graph, readings);
    private final Graph[] keptGraphs = new Graph[KEPT];
    private final Progress[] keptProgress = new Progress[KEPT];
    private int kept = 0;
    private final int[] order = new int[TERMS];
    private final int[] places = new int[TERMS];
    private final int[] toApply = new int[RULES];
    private boolean heldBack = false;

    public SaturnalGraph() {
        for (int kind = 0; kind < KINDS; kind++) {
            costs[kind] = 1;
        }
        for (int i = 0; i < KEPT; i++) {
            keptGraphs[i] = new Graph();
            keptProgress[i] = new Progress();
        }
    }

    // Terms

    public int number(int value) throws IllegalArgumentException, IllegalStateException {
        if (value < -LARGEST_NUMBER || value > LARGEST_NUMBER) {
            throw new IllegalArgumentException("the number is out of range");
        }
        return addTerm(NUMBER, value, NONE);
    }

    public int variable(int variable) throws IllegalArgumentException, IllegalStateException {
        if (variable < 0 || variable >= VARIABLES) {
            throw new IllegalArgumentException("there is no such variable");
        }
        return addTerm(VARIABLE, variable, NONE);
    }

    public int hole(int hole) throws IllegalArgumentException, IllegalStateException {
        if (hole < 0 || hole >= HOLES) {
            throw new IllegalArgumentException("there is no such hole");
        }
        return addTerm(HOLE, hole, NONE);
    }

    public int one(char operator, int part)
            throws IllegalArgumentException, IndexOutOfBoundsException, IllegalStateException {
        int kind = kindOfOperator(operator);
        if (kind == NONE || kind >= PLUS) {
            throw new IllegalArgumentException("there is no such operator");
        }
        checkTerm(part);
        return addTerm(kind, part, NONE);
    }

    public int two(char operator, int first, int second)
            throws IllegalArgumentException, IndexOutOfBoundsException, IllegalStateException {
        int kind = kindOfOperator(operator);
        if (kind < PLUS) {
            throw new IllegalArgumentException("there is no such operator");
        }
        checkTerm(first);
        checkTerm(second);
        return addTerm(kind, first, second);
    }

    public int terms() {
        return terms.count;
    }

    public int size(int term) throws IndexOutOfBoundsException {
        checkTerm(term);
        return terms.sizes[term];
    }

    public int value(int term, int first, int second)
            throws IndexOutOfBoundsException, UnsupportedOperationException {
        checkTerm(term);
        checkNoHole(term);
        return terms.evaluate(term, VARIABLE, first, second);
    }

    // Rules

    public int rule(int left, int right, char condition)
            throws IndexOutOfBoundsException, IllegalArgumentException,
            UnsupportedOperationException, IllegalStateException {
        checkTerm(left);
        checkTerm(right);
        if (condition != '-' && condition != 'n' && condition != 'z') {
            throw new IllegalArgumentException("there is no such condition");
        }
        if (!terms.canBeSides(left, right) || condition != '-' && (terms.holes[left] & 1) == 0) {
            throw new UnsupportedOperationException("these sides and this condition are no rule");
        }
        if (rules >= RULES) {
            throw new IllegalStateException("there are 12 rules");
        }
        this.left[rules] = left;
        this.right[rules] = right;
        this.condition[rules] = condition;
        rules++;
        return rules - 1;
    }

    public boolean holds(int rule, int first, int second) throws IndexOutOfBoundsException {
        checkRule(rule);
        int leftValue = terms.evaluate(left[rule], HOLE, first, second);
        return leftValue == terms.evaluate(right[rule], HOLE, first, second);
    }

    public int setLimit(int rule, int limit) throws IndexOutOfBoundsException, IllegalArgumentException {
        checkRule(rule);
        if (limit < 1 || limit > LARGEST_LIMIT) {
            throw new IllegalArgumentException("the limit is out of range");
        }
        int before = progress.limits[rule];
        progress.limits[rule] = limit;
        return before;
    }

    public int setNodes(int nodes) throws IllegalArgumentException {
        if (nodes < FEWEST_NODES || nodes > NODES) {
            throw new IllegalArgumentException("the limit is out of range");
        }
        int before = nodeLimit;
        nodeLimit = nodes;
        return before;
    }

    // The graph

    public int put(int term)
            throws IndexOutOfBoundsException, UnsupportedOperationException, IllegalStateException {
        checkTerm(term);
        checkNoHole(term);
        int size = terms.listParts(term, order);
        int countBefore = graph.count;
        boolean dueBefore = graph.due;
        int node = placeListed(size);
        if (node == NONE) {
            graph.count = countBefore;
            graph.due = dueBefore;
            throw new IllegalStateException("there is no room for all new nodes");
        }
        for (int i = 0; i < size; i++) {
            progress.nodeOfTerm[order[i]] = places[order[i]];
        }
        return node;
    }

    public boolean join(int first, int second) throws IndexOutOfBoundsException, NoSuchElementException {
        checkPutIn(first, second);
        return graph.connect(progress.nodeOfTerm[first], progress.nodeOfTerm[second], FACT);
    }

    public boolean areSame(int first, int second) throws IndexOutOfBoundsException, NoSuchElementException {
        checkPutIn(first, second);
        return isOneClass(first, second);
    }

    public boolean isDue() {
        return graph.due;
    }

    public int rebuild() {
        return restore();
    }

    public int nodes() {
        return graph.count;
    }

    public int classes() {
        return graph.countClasses();
    }

    public int classOf(int node) throws IndexOutOfBoundsException {
        checkNode(node);
        return graph.group[node];
    }

    public int nodesIn(int node) throws IndexOutOfBoundsException {
        checkNode(node);
        int found = 0;
        for (int i = 0; i < graph.count; i++) {
            found += graph.group[i] == graph.group[node] ? 1 : 0;
        }
        return found;
    }

    public char kindOf(int node) throws IndexOutOfBoundsException {
        checkNode(node);
        int kind = graph.kind[node];
        return kind >= 0 && kind < KINDS ? SIGNS[kind] : SIGNS[NUMBER];
    }

    public int numberOf(int node) throws IndexOutOfBoundsException, UnsupportedOperationException {
        checkNode(node);
        if (graph.kind[node] >= CONTRARY) {
            throw new UnsupportedOperationException("it has an operator");
        }
        return graph.first[node];
    }

    public int part(int node, int part) throws IndexOutOfBoundsException, NoSuchElementException {
        checkNode(node);
        int parts = partsOf(graph.kind[node]);
        if (part < 0 || part >= parts) {
            throw new NoSuchElementException("there is no such part");
        }
        return part == 0 ? graph.firstKey(node) : graph.secondKey(node);
    }

    public int constant(int node) throws IndexOutOfBoundsException, NoSuchElementException {
        checkNode(node);
        readings.readConstants();
        int group = graph.group[node];
        if (!readings.isKnown(group)) {
            throw new NoSuchElementException("it has no constant");
        }
        return pick(readings.constants, group);
    }

    public int free(int node) throws IndexOutOfBoundsException {
        checkNode(node);
        readings.readFree();
        return pick(readings.frees, graph.group[node]);
    }

    public int clashes() {
        readings.readConstants();
        return readings.countClashes();
    }

    // Rounds

    public int matches(int rule) throws IndexOutOfBoundsException, IllegalStateException {
        checkRule(rule);
        if (graph.due) {
            throw new IllegalStateException("rebuilding is due");
        }
        matcher.freeze();
        matcher.aim(left[rule], condition[rule]);
        return (int) Math.min(LARGEST_INT, matcher.countUpTo(MOST_MATCHES));
    }

    public int round() {
        return runRound();
    }

    public char saturate(int rounds) throws IllegalArgumentException {
        if (rounds < 1 || rounds > MOST_ROUNDS) {
            throw new IllegalArgumentException("the number of rounds is out of range");
        }
        for (int i = 0; i < rounds; i++) {
            int joined = runRound();
            if (progress.spent) {
                return 'n';
            }
            if (joined == 0 && !heldBack) {
                return 's';
            }
        }
        return 'r';
    }

    public int rounds() {
        return progress.rounds;
    }

    public boolean isSpent() {
        return progress.spent;
    }

    public int banned(int rule) throws IndexOutOfBoundsException {
        checkRule(rule);
        return progress.bannedFor[rule];
    }

    public int applied(int rule) throws IndexOutOfBoundsException {
        checkRule(rule);
        return progress.appliedTimes[rule];
    }

    // Costs

    public int setCost(char operator, int cost) throws IllegalArgumentException {
        int kind = kindOfOperator(operator);
        if (kind == NONE || cost < 1 || cost > LARGEST_COST) {
            throw new IllegalArgumentException("there is no such operator, or the cost is out of range");
        }
        int before = costs[kind];
        costs[kind] = cost;
        return before;
    }

    public int cost(int node) throws IndexOutOfBoundsException {
        checkNode(node);
        readings.readCosts();
        return pick(readings.cheapest, graph.group[node]);
    }

    public int best(int node) throws IndexOutOfBoundsException, NoSuchElementException {
        return bestNode(node);
    }

    public int sharedCost(int node) throws IndexOutOfBoundsException, NoSuchElementException {
        bestNode(node);
        return readings.payOnce(graph.group[node]);
    }

    public int bestValue(int node, int first, int second)
            throws IndexOutOfBoundsException, NoSuchElementException {
        bestNode(node);
        return readings.evaluateBest(graph.group[node], first, second);
    }

    // Chains

    public int why(int first, int second) throws IndexOutOfBoundsException, NoSuchElementException {
        checkOneClass(first, second);
        return graph.chainLength(progress.nodeOfTerm[first], progress.nodeOfTerm[second]);
    }

    public int whyAt(int first, int second, int step) throws IndexOutOfBoundsException, NoSuchElementException {
        checkOneClass(first, second);
        int from = progress.nodeOfTerm[first];
        int to = progress.nodeOfTerm[second];
        if (step < 0 || step > LAST_STEP || step >= graph.chainLength(from, to)) {
            throw new NoSuchElementException("there is no such step");
        }
        return graph.stepOfChain(from, to, step);
    }

    // The stack

    public int push() throws IllegalStateException {
        if (kept >= KEPT) {
            throw new IllegalStateException("3 are kept");
        }
        copyState(graph, progress, keptGraphs[kept], keptProgress[kept]);
        kept++;
        return kept;
    }

    public int pop() throws IllegalStateException {
        if (kept <= 0) {
            throw new IllegalStateException("none is kept");
        }
        kept--;
        copyState(keptGraphs[kept], keptProgress[kept], graph, progress);
        return graph.count;
    }

    // Sums

    public long sum() {
        readings.readCosts();
        long total = 0L;
        for (int i = 0; i < graph.count; i++) {
            total += graph.group[i] == i ? readings.cheapest[i] : 0;
        }
        return total;
    }

    public float constantShare() throws ArithmeticException {
        int all = graph.countClasses();
        if (all == 0) {
            throw new ArithmeticException("there are no classes");
        }
        readings.readConstants();
        int known = 0;
        for (int i = 0; i < graph.count; i++) {
            known += graph.group[i] == i && readings.isKnown(i) ? 1 : 0;
        }
        return (float) known / (float) all;
    }

    public double meanNodes() throws ArithmeticException {
        int all = graph.countClasses();
        if (all == 0) {
            throw new ArithmeticException("there are no classes");
        }
        return (double) graph.count / (double) all;
    }

    public boolean isSound() {
        if (!graph.due && graph.hasAlikeApart() || !graph.hasLinksAsClasses()) {
            return false;
        }
        readings.readCosts();
        return readings.areBestTermsPriced();
    }

    // What several calls check

    private void checkTerm(int term) {
        if (term < 0 || term >= terms.count) {
            throw new IndexOutOfBoundsException("there is no such term");
        }
    }

    private void checkNoHole(int term) {
        if (terms.holes[term] != 0) {
            throw new UnsupportedOperationException("the term has a hole");
        }
    }

    private void checkRule(int rule) {
        if (rule < 0 || rule >= rules) {
            throw new IndexOutOfBoundsException("there is no such rule");
        }
    }

    private void checkNode(int node) {
        if (node < 0 || node >= graph.count) {
            throw new IndexOutOfBoundsException("there is no such node");
        }
    }

    private void checkPutIn(int first, int second) {
        checkTerm(first);
        checkTerm(second);
        if (progress.nodeOfTerm[first] == NONE || progress.nodeOfTerm[second] == NONE) {
            throw new NoSuchElementException("the term was not put into the graph");
        }
    }

    private void checkOneClass(int first, int second) {
        checkPutIn(first, second);
        if (!isOneClass(first, second)) {
            throw new NoSuchElementException("the terms are not in one class");
        }
    }

    private boolean isOneClass(int first, int second) {
        return graph.classAt(progress.nodeOfTerm[first]) == graph.classAt(progress.nodeOfTerm[second]);
    }

    private int bestNode(int node) {
        checkNode(node);
        readings.readCosts();
        int found = pick(readings.bests, graph.group[node]);
        if (found == NONE) {
            throw new NoSuchElementException("it has no best node");
        }
        return found;
    }

    // What several calls do

    private int addTerm(int kind, int first, int second) {
        int size = terms.sizeOfNew(kind, first, second);
        if (terms.count >= TERMS || size > LARGEST_TERM) {
            throw new IllegalStateException("there are 120 terms, or it would be too large");
        }
        return terms.append(kind, first, second, size);
    }

    private void copyState(Graph fromGraph, Progress fromProgress, Graph toGraph, Progress toProgress) {
        if (fromGraph != null && fromProgress != null && toGraph != null && toProgress != null) {
            toGraph.copyFrom(fromGraph);
            toProgress.copyFrom(fromProgress);
        }
    }

    /** Puts the terms listed in 'order' into the graph; a hole is what the matcher found for it. */
    private int placeListed(int size) {
        int node = NONE;
        for (int i = 0; i < size && i < TERMS; i++) {
            int term = order[i];
            int kind = pick(terms.kind, term);
            int first = pick(terms.first, term);
            if (kind == HOLE) {
                node = graph.classAt(pick(matcher.holeClass, first));
            } else if (kind < CONTRARY) {
                node = graph.place(kind, first, NONE, nodeLimit);
            } else {
                node = graph.place(kind, pick(places, first), pick(places, pick(terms.second, term)), nodeLimit);
            }
            if (node == NONE || term < 0 || term >= TERMS) {
                return NONE;
            }
            places[term] = node;
        }
        return node;
    }

    /** Rebuilds, and tells how many nodes were joined. */
    private int restore() {
        int joined = 0;
        boolean again = true;
        // Each turn but the last joins classes, of which there are never more than nodes.
        for (int turn = 0; turn <= 2 * NODES && again; turn++) {
            joined += graph.connectAlike();
            readings.readConstants();
            int reckonings = connectConstants();
            joined += reckonings;
            again = reckonings > 0;
        }
        graph.due = false;
        return joined;
    }

    private int connectConstants() {
        int joined = 0;
        int end = graph.count;
        for (int group = 0; group < end && group < NODES; group++) {
            if (graph.group[group] != group || !readings.isKnown(group)) {
                continue;
            }
            int node = graph.place(NUMBER, readings.constants[group], NONE, nodeLimit);
            if (node != NONE && graph.connect(node, group, RECKONING)) {
                joined++;
            }
        }
        return joined;
    }

    private int runRound() {
        restore();
        progress.rounds++;
        progress.spent = false;
        heldBack = false;
        matcher.freeze();
        chooseRules();
        int joined = 0;
        for (int rule = 0; rule < rules && rule < RULES && !progress.spent; rule++) {
            joined += toApply[rule] > 0 ? applyRule(rule) : 0;
        }
        restore();
        return joined;
    }

    private void chooseRules() {
        for (int rule = 0; rule < rules && rule < RULES; rule++) {
            toApply[rule] = 0;
            if (progress.bannedFor[rule] > 0) {
                progress.bannedFor[rule]--;
                heldBack = true;
                continue;
            }
            int limit = progress.limits[rule];
            matcher.aim(left[rule], condition[rule]);
            long found = matcher.countUpTo(limit + 1L);
            if (found > limit) {
                progress.ban(rule);
                heldBack = true;
            } else {
                toApply[rule] = (int) found;
            }
        }
    }

    /** Lists the matches of the rule in the graph as it was, and applies each. */
    private int applyRule(int rule) {
        int joined = 0;
        int size = terms.listParts(right[rule], order);
        matcher.aim(left[rule], condition[rule]);
        boolean isMore = true;
        // A gathering that leaves some matches for the next one has at least one.
        for (int turn = 0; turn < toApply[rule] && isMore; turn++) {
            isMore = matcher.gather(toApply[rule]);
            for (int i = 0; i < matcher.finds.count; i++) {
                matcher.choose(i);
                int node = placeListed(size);
                if (node == NONE) {
                    progress.spent = true;
                    return joined;
                }
                progress.appliedTimes[rule]++;
                joined += graph.connect(node, matcher.node, rule) ? 1 : 0;
            }
        }
        return joined;
    }

    // Helpers without state

    /** The element, or NONE if there is no such index. */
    private static int pick(int[] row, int index) {
        return index >= 0 && index < row.length ? row[index] : NONE;
    }

    private static int kindOfOperator(char operator) {
        for (int kind = CONTRARY; kind < KINDS; kind++) {
            if (SIGNS[kind] == operator) {
                return kind;
            }
        }
        return NONE;
    }

    private static int partsOf(int kind) {
        return kind >= PLUS ? 2 : kind >= CONTRARY ? 1 : 0;
    }

    private static int reckon(int kind, int first, int second) {
        if (kind == CONTRARY) {
            return -first;
        }
        if (kind == F) {
            return 7 * first + 3;
        }
        if (kind == PLUS) {
            return first + second;
        }
        if (kind == MINUS) {
            return first - second;
        }
        if (kind == TIMES) {
            return first * second;
        }
        return 31 * first + 17 * second;
    }

    private static int pickSetting(int index, int first, int second) {
        return index == 0 ? first : index == 1 ? second : 0;
    }

    /** The terms. The first part of a number, a variable or a hole is its own number. */
    private static final class Terms {
        final int[] kind = new int[TERMS];
        final int[] first = new int[TERMS];
        final int[] second = new int[TERMS];
        final int[] sizes = new int[TERMS];
        final int[] holes = new int[TERMS];
        final int[] values = new int[TERMS];
        final int[] stack = new int[TERMS];
        final boolean[] listed = new boolean[TERMS];
        int count = 0;

        int sizeOfNew(int kind, int first, int second) {
            int size = 1;
            if (kind >= CONTRARY) {
                size += pick(sizes, first);
            }
            if (kind >= PLUS) {
                size += pick(sizes, second);
            }
            return size;
        }

        int append(int kind, int first, int second, int size) {
            if (count < 0 || count >= TERMS) {
                return NONE;
            }
            int term = count;
            this.kind[term] = kind;
            this.first[term] = first;
            this.second[term] = second;
            sizes[term] = size;
            if (kind == HOLE) {
                holes[term] = 1 << first;
            } else {
                holes[term] = kind >= CONTRARY ? pick(holes, first) : 0;
                holes[term] |= kind >= PLUS ? pick(holes, second) : 0;
            }
            count++;
            return term;
        }

        boolean canBeSides(int left, int right) {
            return pick(kind, left) >= CONTRARY
                    && pick(sizes, left) <= LARGEST_SIDE
                    && pick(sizes, right) <= LARGEST_SIDE
                    && (pick(holes, right) & ~pick(holes, left)) == 0;
        }

        /** The value; those of the kind that is set are 'zero' and 'one' for 0 and 1, all else is 0. */
        int evaluate(int term, int setKind, int zero, int one) {
            // Parts have lower numbers, so each value is there before it is used.
            for (int i = 0; i <= term && i < count; i++) {
                if (kind[i] == NUMBER) {
                    values[i] = first[i];
                } else if (kind[i] < CONTRARY) {
                    values[i] = kind[i] == setKind ? pickSetting(first[i], zero, one) : 0;
                } else {
                    values[i] = reckon(kind[i], pick(values, first[i]), pick(values, second[i]));
                }
            }
            return pick(values, term);
        }

        /** Lists a term and its parts, each once, in the order in which they are put into the graph. */
        int listParts(int term, int[] order) {
            for (int i = 0; i < TERMS; i++) {
                listed[i] = false;
            }
            int found = 0;
            int depth = 1;
            stack[0] = term;
            // Each term is stacked once and listed once.
            for (int step = 0; step < 2 * TERMS && depth > 0 && depth <= TERMS; step++) {
                int top = stack[depth - 1];
                int part = nextPart(top);
                if (part != NONE && depth < TERMS) {
                    stack[depth] = part;
                    depth++;
                } else {
                    depth--;
                    if (top >= 0 && top < TERMS && found < order.length) {
                        listed[top] = true;
                        order[found] = top;
                        found++;
                    }
                }
            }
            return found;
        }

        private int nextPart(int term) {
            int parts = partsOf(pick(kind, term));
            if (parts > 0 && !isListed(pick(first, term))) {
                return pick(first, term);
            }
            if (parts > 1 && !isListed(pick(second, term))) {
                return pick(second, term);
            }
            return NONE;
        }

        private boolean isListed(int term) {
            return term < 0 || term >= TERMS || listed[term];
        }
    }

    /**
     * Nodes, their classes, and the links. The links are kept as trees, one for each class: each node
     * but a root has a link to its parent. 'first' of a number or a variable is its own number.
     */
    private static final class Graph {
        final int[] kind = new int[NODES];
        final int[] first = new int[NODES];
        final int[] second = new int[NODES];
        final int[] group = new int[NODES];
        final int[] parent = new int[NODES];
        final int[] reason = new int[NODES];
        final int[] length = new int[NODES];
        int count = 0;
        boolean due = false;

        void copyFrom(Graph other) {
            System.arraycopy(other.kind, 0, kind, 0, NODES);
            System.arraycopy(other.first, 0, first, 0, NODES);
            System.arraycopy(other.second, 0, second, 0, NODES);
            System.arraycopy(other.group, 0, group, 0, NODES);
            System.arraycopy(other.parent, 0, parent, 0, NODES);
            System.arraycopy(other.reason, 0, reason, 0, NODES);
            System.arraycopy(other.length, 0, length, 0, NODES);
            count = other.count;
            due = other.due;
        }

        int classAt(int node) {
            return node >= 0 && node < count ? group[node] : NONE;
        }

        int countClasses() {
            int found = 0;
            for (int i = 0; i < count; i++) {
                found += group[i] == i ? 1 : 0;
            }
            return found;
        }

        /** The number, the variable, or the class of the first part. */
        int firstKey(int node) {
            if (node < 0 || node >= count) {
                return NONE;
            }
            int own = first[node];
            if (kind[node] < CONTRARY) {
                return own;
            }
            return own >= 0 && own < count ? group[own] : NONE;
        }

        int secondKey(int node) {
            if (node < 0 || node >= count || kind[node] < PLUS) {
                return NONE;
            }
            int own = second[node];
            return own >= 0 && own < count ? group[own] : NONE;
        }

        /** The lowest node below 'end' that is alike to one of this kind and these keys. */
        int lowestAlike(int likeKind, int likeFirst, int likeSecond, int end) {
            for (int i = 0; i < end && i < count; i++) {
                if (kind[i] == likeKind && firstKey(i) == likeFirst && secondKey(i) == likeSecond) {
                    return i;
                }
            }
            return NONE;
        }

        /** Finds or makes a node; NONE if a new one would have no room. The parts are nodes. */
        int place(int newKind, int newFirst, int newSecond, int limit) {
            int ownFirst = newKind >= CONTRARY ? pick(group, newFirst) : newFirst;
            int ownSecond = newKind >= PLUS ? pick(group, newSecond) : NONE;
            int found = lowestAlike(newKind, ownFirst, ownSecond, count);
            if (found != NONE) {
                return found;
            }
            if (count < 0 || count >= limit || count >= NODES) {
                return NONE;
            }
            int node = count;
            kind[node] = newKind;
            // The number of a class is its lowest node, which becomes the part.
            first[node] = ownFirst;
            second[node] = ownSecond;
            group[node] = node;
            parent[node] = NONE;
            count++;
            due = true;
            return node;
        }

        /** Joins two nodes, unless they are in one class. */
        boolean connect(int one, int other, int why) {
            int oneClass = classAt(one);
            int otherClass = classAt(other);
            if (oneClass == otherClass || oneClass == NONE || otherClass == NONE) {
                return false;
            }
            int steps = why != CONGRUENCE ? 1 : Math.min(LONGEST_CHAIN,
                    chainLength(pick(first, one), pick(first, other))
                    + chainLength(pick(second, one), pick(second, other)));
            makeRoot(one);
            parent[one] = other;
            reason[one] = why;
            length[one] = steps;
            int low = Math.min(oneClass, otherClass);
            int high = Math.max(oneClass, otherClass);
            for (int i = high; i < count; i++) {
                group[i] = group[i] == high ? low : group[i];
            }
            due = true;
            return true;
        }

        /** Turns the links on the way from a node to its root round. */
        private void makeRoot(int node) {
            int child = node;
            int above = NONE;
            int oldReason = 0;
            int oldLength = 0;
            for (int step = 0; step < NODES && child >= 0 && child < count; step++) {
                int next = parent[child];
                int nextReason = reason[child];
                int nextLength = length[child];
                parent[child] = above;
                reason[child] = oldReason;
                length[child] = oldLength;
                above = child;
                oldReason = nextReason;
                oldLength = nextLength;
                child = next;
            }
        }

        /** Joins by congruence until nothing is joined any more, and tells how many were. */
        int connectAlike() {
            int joined = 0;
            boolean again = true;
            for (int turn = 0; turn <= NODES && again; turn++) {
                again = false;
                for (int i = 0; i < count; i++) {
                    int low = lowestAlike(kind[i], firstKey(i), secondKey(i), i);
                    if (low != NONE && connect(i, low, CONGRUENCE)) {
                        joined++;
                        again = true;
                    }
                }
            }
            return joined;
        }

        /** The lowest node that lies on both ways to the root, NONE if there is none. */
        private int meeting(int one, int other) {
            int oneDepth = 0;
            int otherDepth = 0;
            for (int i = one; oneDepth <= NODES && i >= 0 && i < count; i = parent[i]) {
                oneDepth++;
            }
            for (int i = other; otherDepth <= NODES && i >= 0 && i < count; i = parent[i]) {
                otherDepth++;
            }
            int a = one;
            int b = other;
            for (int step = 0; step <= 2 * NODES && a != b; step++) {
                if (a < 0 || a >= count || b < 0 || b >= count) {
                    return NONE;
                }
                if (oneDepth >= otherDepth) {
                    a = parent[a];
                    oneDepth--;
                } else {
                    b = parent[b];
                    otherDepth--;
                }
            }
            return a == b ? a : NONE;
        }

        /** How many steps the links on the way up from a node to one above it have. */
        private int climb(int node, int top) {
            int steps = 0;
            int at = node;
            for (int i = 0; i < NODES && at != top && at >= 0 && at < count; i++) {
                steps += length[at];
                at = parent[at];
            }
            return steps;
        }

        int chainLength(int from, int to) {
            int top = meeting(from, to);
            if (top == NONE) {
                return 0;
            }
            return Math.min(LONGEST_CHAIN, climb(from, top) + climb(to, top));
        }

        /** The rule, fact or reckoning that is a step of a chain; the step must be one of it. */
        int stepOfChain(int from, int to, int step) {
            int start = from;
            int end = to;
            int rest = step;
            // Parts became one before the nodes did, so that each turn leads to an older link.
            for (int turn = 0; turn <= NODES; turn++) {
                int top = meeting(start, end);
                int up = climb(start, top);
                boolean isUp = rest < up;
                int child = isUp ? linkUp(start, rest) : linkDown(end, top, rest - up);
                int above = pick(parent, child);
                if (above == NONE || reason[child] != CONGRUENCE) {
                    return pick(reason, child);
                }
                rest -= isUp ? climb(start, child) : up + climb(above, top);
                int source = isUp ? child : above;
                int target = isUp ? above : child;
                int firstSteps = chainLength(pick(first, source), pick(first, target));
                boolean isInFirst = rest < firstSteps;
                rest -= isInFirst ? 0 : firstSteps;
                start = pick(isInFirst ? first : second, source);
                end = pick(isInFirst ? first : second, target);
            }
            return NONE;
        }

        /** The node, on the way up from one, whose link to its parent has the step in it. */
        private int linkUp(int from, int step) {
            int at = from;
            int rest = step;
            for (int i = 0; i < NODES && at >= 0 && at < count && rest >= length[at]; i++) {
                rest -= length[at];
                at = parent[at];
            }
            return at;
        }

        /** The same on the way down from 'top' to 'to'. */
        private int linkDown(int to, int top, int step) {
            int at = to;
            int before = climb(to, top);
            for (int i = 0; i < NODES && at >= 0 && at < count; i++) {
                before -= length[at];
                if (step >= before) {
                    return at;
                }
                at = parent[at];
            }
            return NONE;
        }

        boolean hasAlikeApart() {
            for (int i = 0; i < count; i++) {
                int low = lowestAlike(kind[i], firstKey(i), secondKey(i), i);
                if (low != NONE && classAt(low) != group[i]) {
                    return true;
                }
            }
            return false;
        }

        boolean hasLinksAsClasses() {
            for (int i = 0; i < count; i++) {
                int root = rootOf(i);
                if (classAt(root) != group[i] || rootOf(group[i]) != root) {
                    return false;
                }
            }
            return true;
        }

        private int rootOf(int node) {
            int at = node;
            for (int step = 0; step < NODES && pick(parent, at) != NONE; step++) {
                at = pick(parent, at);
            }
            return at;
        }
    }

    /** What push() keeps beside the graph. */
    private static final class Progress {
        final int[] nodeOfTerm = new int[TERMS];
        final int[] limits = new int[RULES];
        final int[] bannedFor = new int[RULES];
        final int[] bans = new int[RULES];
        final int[] appliedTimes = new int[RULES];
        int rounds = 0;
        boolean spent = false;

        Progress() {
            // A rule or a term that is not there yet is as a new one, also behind pop().
            Arrays.fill(nodeOfTerm, NONE);
            Arrays.fill(limits, FIRST_LIMIT);
        }

        void copyFrom(Progress other) {
            System.arraycopy(other.nodeOfTerm, 0, nodeOfTerm, 0, TERMS);
            System.arraycopy(other.limits, 0, limits, 0, RULES);
            System.arraycopy(other.bannedFor, 0, bannedFor, 0, RULES);
            System.arraycopy(other.bans, 0, bans, 0, RULES);
            System.arraycopy(other.appliedTimes, 0, appliedTimes, 0, RULES);
            rounds = other.rounds;
            spent = other.spent;
        }

        void ban(int rule) {
            if (rule >= 0 && rule < RULES) {
                bannedFor[rule] = 1 << bans[rule];
                bans[rule]++;
                limits[rule] *= 2;
            }
        }
    }

    /** What rides on classes. Each is found anew by a call that begins with 'read'. */
    private static final class Readings {
        final Graph graph;
        final int[] costs;
        final int[] heads = new int[NODES];
        final int[] next = new int[NODES];
        final boolean[] known = new boolean[NODES];
        final int[] constants = new int[NODES];
        final int[] frees = new int[NODES];
        final int[] cheapest = new int[NODES];
        final int[] bests = new int[NODES];
        final int[] order = new int[NODES];
        final boolean[] marked = new boolean[NODES];
        final int[] worth = new int[NODES];

        Readings(Graph graph, int[] costs) {
            this.graph = graph;
            this.costs = costs;
        }

        /** Sets 'next' to the next node of the class, by rising numbers. */
        private void listMembers() {
            Arrays.fill(heads, NONE);
            for (int i = graph.count - 1; i >= 0; i--) {
                int group = graph.classAt(i);
                next[i] = pick(heads, group);
                if (isClass(group)) {
                    heads[group] = i;
                }
            }
        }

        private boolean isClass(int group) {
            return group >= 0 && group < NODES;
        }

        boolean isKnown(int group) {
            return group >= 0 && group < NODES && known[group];
        }

        void readConstants() {
            listMembers();
            for (int i = 0; i < NODES; i++) {
                known[i] = false;
            }
            boolean again = true;
            for (int turn = 0; turn <= NODES && again; turn++) {
                again = false;
                for (int group = 0; group < graph.count; group++) {
                    if (graph.group[group] == group && !known[group] && findConstant(group)) {
                        again = true;
                    }
                }
            }
        }

        private boolean findConstant(int group) {
            if (!isClass(group)) {
                return false;
            }
            int node = group;
            for (int i = 0; i < NODES && node != NONE; i++) {
                if (isReckoned(node)) {
                    constants[group] = reckoned(node);
                    known[group] = true;
                    return true;
                }
                node = pick(next, node);
            }
            return false;
        }

        private boolean isReckoned(int node) {
            int kind = pick(graph.kind, node);
            if (kind == NUMBER) {
                return true;
            }
            if (kind != CONTRARY && kind != PLUS && kind != MINUS && kind != TIMES) {
                return false;
            }
            return isKnown(graph.firstKey(node)) && (kind == CONTRARY || isKnown(graph.secondKey(node)));
        }

        private int reckoned(int node) {
            int kind = pick(graph.kind, node);
            if (kind == NUMBER) {
                return graph.firstKey(node);
            }
            return reckon(kind, pick(constants, graph.firstKey(node)), pick(constants, graph.secondKey(node)));
        }

        int countClashes() {
            for (int i = 0; i < NODES; i++) {
                marked[i] = false;
            }
            int found = 0;
            for (int i = 0; i < graph.count; i++) {
                int group = graph.classAt(i);
                // The constant is the number of one of the nodes, so that an unlike one is enough.
                if (isKnown(group) && !marked[group] && isReckoned(i) && reckoned(i) != constants[group]) {
                    marked[group] = true;
                    found++;
                }
            }
            return found;
        }

        void readFree() {
            Arrays.fill(frees, ALL_VARIABLES);
            boolean again = true;
            for (int turn = 0; turn <= VARIABLES * NODES && again; turn++) {
                again = false;
                for (int i = 0; i < graph.count; i++) {
                    int group = graph.classAt(i);
                    if (isClass(group) && (frees[group] & ~freeOfNode(i)) != 0) {
                        frees[group] &= freeOfNode(i);
                        again = true;
                    }
                }
            }
        }

        private int freeOfNode(int node) {
            int kind = pick(graph.kind, node);
            int key = graph.firstKey(node);
            if (kind == VARIABLE) {
                return 1 << key;
            }
            if (kind < CONTRARY) {
                return 0;
            }
            return pick(frees, key) | (kind >= PLUS ? pick(frees, graph.secondKey(node)) : 0);
        }

        void readCosts() {
            Arrays.fill(cheapest, TOP_COST);
            Arrays.fill(bests, NONE);
            boolean again = true;
            for (int turn = 0; turn <= NODES && again; turn++) {
                again = false;
                for (int i = 0; i < graph.count; i++) {
                    int group = graph.classAt(i);
                    int cost = costOfNode(i, cheapest);
                    if (isClass(group) && cost < cheapest[group]) {
                        cheapest[group] = cost;
                        again = true;
                    }
                }
            }
            for (int i = graph.count - 1; i >= 0; i--) {
                int group = graph.classAt(i);
                int cost = costOfNode(i, cheapest);
                if (isClass(group) && cost < TOP_COST && cost == cheapest[group]) {
                    bests[group] = i;
                }
            }
        }

        private int ownCost(int node) {
            int kind = pick(graph.kind, node);
            return kind >= CONTRARY ? pick(costs, kind) : 1;
        }

        private int costOfNode(int node, int[] costOfClass) {
            int parts = partsOf(pick(graph.kind, node));
            int cost = ownCost(node);
            cost += parts > 0 ? pick(costOfClass, graph.firstKey(node)) : 0;
            cost += parts > 1 ? pick(costOfClass, graph.secondKey(node)) : 0;
            return Math.min(cost, TOP_COST);
        }

        /** Lists the classes with a best term, each behind those of its parts. */
        private int orderBests() {
            for (int i = 0; i < NODES; i++) {
                marked[i] = false;
            }
            int found = 0;
            boolean again = true;
            for (int turn = 0; turn <= NODES && again; turn++) {
                again = false;
                for (int group = 0; group < graph.count; group++) {
                    if (!marked[group] && bests[group] != NONE && arePartsMarked(bests[group]) && found < NODES) {
                        marked[group] = true;
                        order[found] = group;
                        found++;
                        again = true;
                    }
                }
            }
            return found;
        }

        private boolean arePartsMarked(int node) {
            int parts = partsOf(pick(graph.kind, node));
            return (parts < 1 || isMarked(graph.firstKey(node)))
                    && (parts < 2 || isMarked(graph.secondKey(node)));
        }

        private boolean isMarked(int group) {
            return group >= 0 && group < NODES && marked[group];
        }

        private void mark(int group) {
            if (isClass(group)) {
                marked[group] = true;
            }
        }

        int evaluateBest(int target, int zero, int one) {
            int found = orderBests();
            for (int i = 0; i < found && i < NODES; i++) {
                int group = order[i];
                if (isClass(group)) {
                    worth[group] = worthOfNode(bests[group], zero, one);
                }
            }
            return pick(worth, target);
        }

        private int worthOfNode(int node, int zero, int one) {
            int kind = pick(graph.kind, node);
            int first = graph.firstKey(node);
            if (kind == NUMBER) {
                return first;
            }
            if (kind == VARIABLE) {
                return pickSetting(first, zero, one);
            }
            return reckon(kind, pick(worth, first), pick(worth, graph.secondKey(node)));
        }

        /** The cost of the best term of a class, each class in it paid once. */
        int payOnce(int target) {
            int found = orderBests();
            for (int i = 0; i < NODES; i++) {
                marked[i] = false;
            }
            mark(target);
            int paid = 0;
            for (int i = Math.min(found, NODES) - 1; i >= 0; i--) {
                int group = order[i];
                if (!isMarked(group)) {
                    continue;
                }
                int node = pick(bests, group);
                int parts = partsOf(pick(graph.kind, node));
                paid += ownCost(node);
                mark(parts > 0 ? graph.firstKey(node) : NONE);
                mark(parts > 1 ? graph.secondKey(node) : NONE);
            }
            return paid;
        }

        boolean areBestTermsPriced() {
            int found = orderBests();
            for (int i = 0; i < found && i < NODES; i++) {
                int group = order[i];
                if (!isClass(group)) {
                    return false;
                }
                worth[group] = costOfNode(bests[group], worth);
                if (worth[group] != cheapest[group]) {
                    return false;
                }
            }
            for (int i = 0; i < graph.count; i++) {
                if (bests[i] != NONE && !marked[i]) {
                    return false;
                }
            }
            return true;
        }
    }

    /**
     * The graph as it was when matches were sought, so that they can be listed while they are applied.
     * Its nodes with operators are entries, by kinds, classes and nodes; of alike nodes only the lowest is
     * one, since the others match no more than it does.
     */
    private static final class Frozen {
        final int[] group = new int[NODES];
        final boolean[] known = new boolean[NODES];
        final int[] constants = new int[NODES];
        // The lowest node of each kind in each class, and then its entry.
        final int[] leading = new int[KINDS * NODES];
        final int[] following = new int[NODES];
        final int[] nodeOf = new int[NODES];
        final int[] groupOf = new int[NODES];
        final int[] firstOf = new int[NODES];
        final int[] secondOf = new int[NODES];
        final int[] starts = new int[KINDS + 1];
        int count = 0;
        int entries = 0;

        void take(Graph graph, Readings readings) {
            count = graph.count;
            Arrays.fill(leading, NONE);
            for (int i = graph.count - 1; i >= 0; i--) {
                int kind = pick(graph.kind, i);
                group[i] = graph.classAt(i);
                known[i] = readings.isKnown(i);
                constants[i] = readings.constants[i];
                following[i] = NONE;
                boolean isLowest = graph.lowestAlike(kind, graph.firstKey(i), graph.secondKey(i), i) == NONE;
                int index = kind * NODES + group[i];
                if (isLowest && kind >= CONTRARY && index >= 0 && index < leading.length) {
                    following[i] = leading[index];
                    leading[index] = i;
                }
            }
            entries = 0;
            for (int kind = CONTRARY; kind < KINDS; kind++) {
                starts[kind] = entries;
                for (int of = 0; of < count; of++) {
                    takeEntries(kind, of, graph);
                }
            }
            starts[KINDS] = entries;
        }

        private void takeEntries(int kind, int of, Graph graph) {
            int index = kind * NODES + of;
            int node = pick(leading, index);
            if (node == NONE || index < 0 || index >= leading.length) {
                return;
            }
            leading[index] = entries;
            for (int i = 0; i < NODES && node != NONE && entries < NODES; i++) {
                nodeOf[entries] = node;
                groupOf[entries] = of;
                firstOf[entries] = graph.firstKey(node);
                secondOf[entries] = graph.secondKey(node);
                entries++;
                node = pick(following, node);
            }
        }

        /** The first entry of a kind in a class, or in any; NONE if there is none. */
        int firstEntry(int kind, int of) {
            return of == NONE ? pick(starts, kind) : pick(leading, kind * NODES + of);
        }

        /** Whether a hole with this condition can be this class. */
        boolean fits(int of, char condition) {
            if (of < 0 || of >= count || group[of] != of) {
                return false;
            }
            return condition == '-' || known[of] && (condition == 'n' || constants[of] != 0);
        }
    }

    /**
     * The left term of a rule: a row for each operator of it, ahead of those of its parts. The parts of a
     * row are at two slots, 2 * row and the next one: a part is a row, a hole, or a leaf in a class.
     */
    private static final class Pattern {
        final int[] termAt = new int[LARGEST_SIDE];
        final int[] slotAt = new int[LARGEST_SIDE];
        final int[] rowKind = new int[LARGEST_SIDE];
        final int[] rowSlot = new int[LARGEST_SIDE];
        final int[] rowHoles = new int[LARGEST_SIDE];
        final int[] slotRow = new int[SLOTS];
        final int[] slotHole = new int[SLOTS];
        final int[] slotGroup = new int[SLOTS];
        final int[] slotHoles = new int[SLOTS];
        // The set of the classes that the part can be, and how far it is from that of the next level.
        final int[] slotSet = new int[SLOTS];
        final int[] slotStep = new int[SLOTS];
        final int[] stands = new int[HOLES];
        final int[] lastSlot = new int[HOLES];
        int rows = 0;

        void take(int term, Terms terms, Graph graph, Frozen frozen) {
            int size = Math.min(LARGEST_SIDE, pick(terms.sizes, term));
            Arrays.fill(stands, 0);
            Arrays.fill(slotRow, NONE);
            Arrays.fill(slotHole, NONE);
            Arrays.fill(slotGroup, NONE);
            Arrays.fill(slotHoles, 0);
            Arrays.fill(slotStep, 0);
            for (int slot = 0; slot < SLOTS; slot++) {
                slotSet[slot] = LEAF_SETS + slot;
            }
            rows = 0;
            setTerm(0, term, NONE, terms);
            // A part stands behind its operator, so that its term is set when its turn comes.
            for (int at = 0; at < size; at++) {
                if (pick(terms.kind, termAt[at]) >= CONTRARY) {
                    takeOperator(at, terms);
                } else {
                    takeLeaf(at, terms, graph, frozen);
                }
            }
        }

        private void setTerm(int at, int term, int slot, Terms terms) {
            if (at >= 0 && at < LARGEST_SIDE) {
                termAt[at] = term;
                slotAt[at] = slot;
            }
            if (slot >= 0 && slot < SLOTS) {
                slotHoles[slot] = pick(terms.holes, term);
            }
        }

        private void takeOperator(int at, Terms terms) {
            if (at < 0 || at >= LARGEST_SIDE || rows < 0 || rows >= LARGEST_SIDE) {
                return;
            }
            int term = termAt[at];
            int slot = slotAt[at];
            int first = pick(terms.first, term);
            rowKind[rows] = pick(terms.kind, term);
            rowHoles[rows] = pick(terms.holes, term);
            rowSlot[rows] = slot;
            if (slot >= 0 && slot < SLOTS) {
                slotRow[slot] = rows;
                slotSet[slot] = BUILT_SETS + rows;
            }
            setTerm(at + 1, first, 2 * rows, terms);
            if (rowKind[rows] >= PLUS) {
                setTerm(at + 1 + pick(terms.sizes, first), pick(terms.second, term), 2 * rows + 1, terms);
            }
            rows++;
        }

        private void takeLeaf(int at, Terms terms, Graph graph, Frozen frozen) {
            int term = pick(termAt, at);
            int slot = pick(slotAt, at);
            int kind = pick(terms.kind, term);
            int own = pick(terms.first, term);
            if (slot < 0 || slot >= SLOTS) {
                return;
            }
            if (kind != HOLE) {
                slotGroup[slot] = pick(frozen.group, graph.lowestAlike(kind, own, NONE, frozen.count));
            } else if (own >= 0 && own < HOLES) {
                slotHole[slot] = own;
                slotSet[slot] = HOLE_SETS + own;
                slotStep[slot] = HOLES;
                stands[own]++;
                lastSlot[own] = slot;
            }
        }
    }

    /** Numbered sets of classes or of entries, of which there are at most 300. */
    private static final class Sets {
        final long[] words = new long[SETS * SET_WORDS];

        boolean has(int set, int element) {
            int index = set * SET_WORDS + (element >> 6);
            return element >= 0 && element < NODES && index >= 0 && index < words.length
                    && (words[index] >> (element & 63) & 1L) != 0L;
        }

        void include(int set, int element) {
            int index = set * SET_WORDS + (element >> 6);
            if (element >= 0 && element < NODES && index >= 0 && index < words.length) {
                words[index] |= 1L << (element & 63);
            }
        }

        void exclude(int set, int element) {
            int index = set * SET_WORDS + (element >> 6);
            if (element >= 0 && element < NODES && index >= 0 && index < words.length) {
                words[index] &= ~(1L << (element & 63));
            }
        }

        /** Empties so many sets from one on. */
        void clear(int set, int many) {
            if (set >= 0 && many >= 0 && set + many <= SETS) {
                Arrays.fill(words, set * SET_WORDS, (set + many) * SET_WORDS, 0L);
            }
        }

        /** Copies so many sets from one on to those from another one on. */
        void copy(int from, int to, int many) {
            if (from >= 0 && to >= 0 && many >= 0 && from + many <= SETS && to + many <= SETS) {
                System.arraycopy(words, from * SET_WORDS, words, to * SET_WORDS, many * SET_WORDS);
            }
        }

        /** The lowest element from one on, NONE if there is none. */
        int next(int set, int from) {
            if (set < 0 || set >= SETS || from < 0) {
                return NONE;
            }
            long mask = -1L << (from & 63);
            for (int word = from >> 6; word < SET_WORDS; word++) {
                long rest = words[set * SET_WORDS + word] & mask;
                if (rest != 0L) {
                    return (word << 6) + Long.bitCount((rest & -rest) - 1L);
                }
                mask = -1L;
            }
            return NONE;
        }

        /** The lowest element that three sets share, NONE if there is none. */
        int nextOfAll(int set, int other, int third) {
            if (set < 0 || set >= SETS || other < 0 || other >= SETS || third < 0 || third >= SETS) {
                return NONE;
            }
            for (int word = 0; word < SET_WORDS; word++) {
                long rest = words[set * SET_WORDS + word] & words[other * SET_WORDS + word]
                        & words[third * SET_WORDS + word];
                if (rest != 0L) {
                    return (word << 6) + Long.bitCount((rest & -rest) - 1L);
                }
            }
            return NONE;
        }

        int count(int set) {
            int found = 0;
            for (int word = 0; word < SET_WORDS && set >= 0 && set < SETS; word++) {
                found += Long.bitCount(words[set * SET_WORDS + word]);
            }
            return found;
        }

        /** Takes away what is not in the other one. */
        void retain(int set, int other) {
            if (set < 0 || set >= SETS || other < 0 || other >= SETS) {
                return;
            }
            for (int word = 0; word < SET_WORDS; word++) {
                words[set * SET_WORDS + word] &= words[other * SET_WORDS + word];
            }
        }

        /** If 'of' has one element only, takes away what is not in the set that stands so far behind 'base'. */
        void retainFor(int set, int base, int of) {
            int single = NONE;
            for (int word = 0; word < SET_WORDS && of >= 0 && of < SETS; word++) {
                long all = words[of * SET_WORDS + word];
                if (all != 0L && (single != NONE || (all & all - 1L) != 0L)) {
                    return;
                }
                single = all != 0L ? (word << 6) + Long.bitCount(all - 1L) : single;
            }
            int other = base + single;
            for (int word = 0; word < SET_WORDS && single != NONE; word++) {
                if (set >= 0 && set < SETS && other >= 0 && other < SETS) {
                    words[set * SET_WORDS + word] &= words[other * SET_WORDS + word];
                }
            }
        }

        boolean isWithin(int set, int other) {
            if (set < 0 || set >= SETS || other < 0 || other >= SETS) {
                return false;
            }
            long beyond = 0L;
            for (int word = 0; word < SET_WORDS; word++) {
                beyond |= words[set * SET_WORDS + word] & ~words[other * SET_WORDS + word];
            }
            return beyond == 0L;
        }
    }

    /**
     * How many matches were found for what was left at a level. Another level has as many if it leaves the
     * same choices wherever a hole is still open: what is settled needs not be the same. A place is told by
     * a hash; what comes to a place takes it.
     */
    private static final class Memory {
        final Frozen frozen;
        final Pattern pattern;
        final Sets sets;
        final int[] searches = new int[MOST_REMEMBERED];
        final long[] hashes = new long[MOST_REMEMBERED];
        final int[] givenHoles = new int[MOST_REMEMBERED];
        final long[] found = new long[MOST_REMEMBERED];
        final int[] groupOfKey = new int[NODES];
        final long[] hashAt = new long[LEVELS];
        int search = 0;
        int places = 1;

        Memory(Frozen frozen, Pattern pattern, Sets sets) {
            this.frozen = frozen;
            this.pattern = pattern;
            this.sets = sets;
        }

        /** Forgets all, for a new search. */
        void forget() {
            search++;
            places = Math.min(MOST_REMEMBERED, ROOM_TO_REMEMBER / Math.max(1, pattern.rows));
        }

        /** What was found where as much was left as at a level with these holes given, NONE if not known. */
        long recall(int level, int given) {
            if (level < 0 || level >= LEVELS) {
                return NONE;
            }
            hashAt[level] = hash(level, given);
            int place = placeOf(hashAt[level]);
            boolean isKnown = searches[place] == search && hashes[place] == hashAt[level]
                    && givenHoles[place] == given;
            for (int row = 0; row < pattern.rows && isKnown; row++) {
                int one = REMEMBERED_SETS + place * pattern.rows + row;
                int other = ALIVE_SETS + level * LARGEST_SIDE + row;
                isKnown = (pick(pattern.rowHoles, row) & ~given) == 0 || isRowLike(row, one, other, given);
            }
            return isKnown ? found[place] : NONE;
        }

        /** Remembers what was found for a level; it must have been asked for before. */
        void remember(int level, int given, long many) {
            if (level < 0 || level >= LEVELS) {
                return;
            }
            int place = placeOf(hashAt[level]);
            searches[place] = search;
            hashes[place] = hashAt[level];
            givenHoles[place] = given;
            found[place] = many;
            sets.copy(ALIVE_SETS + level * LARGEST_SIDE, REMEMBERED_SETS + place * pattern.rows, pattern.rows);
        }

        private int placeOf(long hash) {
            int range = Math.max(1, Math.min(MOST_REMEMBERED, places));
            return (int) Math.floorMod(hash >> 20, (long) range);
        }

        /** A sum, so that it is the same in whatever order the entries stand. */
        private long hash(int level, int given) {
            long total = given;
            for (int row = 0; row < pattern.rows; row++) {
                int set = ALIVE_SETS + level * LARGEST_SIDE + row;
                boolean isFirstOpen = (pick(pattern.slotHoles, 2 * row) & ~given) != 0;
                boolean isSecondOpen = (pick(pattern.slotHoles, 2 * row + 1) & ~given) != 0;
                int entry = isFirstOpen || isSecondOpen ? sets.next(set, 0) : NONE;
                for (int i = 0; i < NODES && entry != NONE; i++) {
                    long first = isFirstOpen ? pick(frozen.firstOf, entry) : NONE;
                    long second = isSecondOpen ? pick(frozen.secondOf, entry) : NONE;
                    long group = row == 0 ? NONE : pick(frozen.groupOf, entry);
                    long mixed = (((row * 512L + first) * 512L + second) * 512L + group) * 0x9E3779B97F4A7C15L;
                    total += (mixed ^ mixed >>> 29) * 0xBF58476D1CE4E5B9L;
                    entry = sets.next(set, entry + 1);
                }
            }
            return total;
        }

        private boolean isRowLike(int row, int one, int other, int given) {
            boolean isFirstGiven = (pick(pattern.slotHoles, 2 * row) & ~given) == 0;
            boolean isSecondGiven = (pick(pattern.slotHoles, 2 * row + 1) & ~given) == 0;
            if (pick(pattern.rowKind, row) < PLUS || !isFirstGiven && !isSecondGiven) {
                return sets.isWithin(one, other) && sets.isWithin(other, one);
            }
            // The part that is given is one class in each set; what counts is which classes the other one
            // has and what comes of each. At the top nothing hangs on what comes of it.
            int[] open = isFirstGiven ? frozen.secondOf : frozen.firstOf;
            sets.clear(KEY_SET, 1);
            int entry = sets.next(one, 0);
            for (int i = 0; i < NODES && entry != NONE; i++) {
                int key = pick(open, entry);
                if (key >= 0 && key < NODES) {
                    sets.include(KEY_SET, key);
                    groupOfKey[key] = pick(frozen.groupOf, entry);
                }
                entry = sets.next(one, entry + 1);
            }
            boolean isLike = sets.count(one) == sets.count(other);
            entry = sets.next(other, 0);
            for (int i = 0; i < NODES && entry != NONE && isLike; i++) {
                int key = pick(open, entry);
                isLike = sets.has(KEY_SET, key)
                        && (row == 0 || pick(groupOfKey, key) == pick(frozen.groupOf, entry));
                entry = sets.next(other, entry + 1);
            }
            return isLike;
        }
    }

    /**
     * Matches, each as the entries of its rows, which also tell their order. What finds no room is left
     * out, the last ones first, for another gathering behind those that were kept.
     */
    private static final class Finds {
        final Frozen frozen;
        final Pattern pattern;
        final Sets sets;
        int[] entries = new int[FIRST_ENTRIES];
        // The places in 'entries' of the matches: as they came, and a heap with the last one on top from
        // when there is no more room.
        int[] order = new int[FIRST_FINDS];
        final int[] chosen = new int[LARGEST_SIDE];
        final int[] floor = new int[LARGEST_SIDE];
        int width = 1;
        int count = 0;
        boolean hasFloor = false;
        boolean isCut = false;
        boolean isSorted = true;
        boolean isBegun = false;

        Finds(Frozen frozen, Pattern pattern, Sets sets) {
            this.frozen = frozen;
            this.pattern = pattern;
            this.sets = sets;
        }

        /** Prepares for the first matches of the pattern. */
        void restart() {
            width = Math.max(1, Math.min(LARGEST_SIDE, pattern.rows));
            hasFloor = false;
            begin();
        }

        /** Prepares for those behind the ones that are kept, which must have been sorted. */
        void proceed() {
            int from = count > 0 ? pick(order, count - 1) * width : NONE;
            for (int row = 0; row < width && row < LARGEST_SIDE && count > 0; row++) {
                floor[row] = pick(entries, from + row);
            }
            hasFloor = hasFloor || count > 0;
            begin();
        }

        private void begin() {
            count = 0;
            isCut = false;
            isSorted = true;
        }

        /** Goes back ahead of the first match that is left at a level. */
        void rewind() {
            isBegun = false;
        }

        /** Chooses the next match at a level where all that is left is in one, whatever is chosen ahead of it. */
        boolean advance(int level) {
            int row = isBegun ? width - 1 : 0;
            boolean isFresh = !isBegun;
            isBegun = true;
            // First it goes back to where another entry can be chosen, then on to the last row.
            for (int move = 0; move < SLOTS && row >= 0 && row < width && row < LARGEST_SIDE; move++) {
                int group = groupFor(row);
                int from = isFresh ? frozen.firstEntry(pick(pattern.rowKind, row), group) : chosen[row] + 1;
                int entry = sets.next(ALIVE_SETS + level * LARGEST_SIDE + row, from);
                isFresh = entry != NONE && (group == NONE || pick(frozen.groupOf, entry) == group);
                if (!isFresh) {
                    row--;
                    continue;
                }
                chosen[row] = entry;
                if (row == width - 1) {
                    return true;
                }
                row++;
            }
            return false;
        }

        /** The class that a row must have after what was chosen ahead of it; NONE if it may have any. */
        private int groupFor(int row) {
            int slot = row > 0 ? pick(pattern.rowSlot, row) : NONE;
            return slot < 0 ? NONE : pick((slot & 1) == 0 ? frozen.firstOf : frozen.secondOf, pick(chosen, slot >> 1));
        }

        /** Keeps what is chosen. */
        void keep() {
            if (hasFloor && compare(chosen, 0, floor, 0) <= 0) {
                return;
            }
            if (!isCut && makeRoom()) {
                isSorted = isSorted && (count == 0 || compare(chosen, 0, entries, (count - 1) * width) > 0);
                System.arraycopy(chosen, 0, entries, count * width, width);
                order[count] = count;
                count++;
                return;
            }
            for (int index = isCut ? NONE : count / 2; index >= 0; index--) {
                sink(index, count);
            }
            isCut = true;
            int top = pick(order, 0) * width;
            if (top >= 0 && top + width <= entries.length && compare(chosen, 0, entries, top) < 0) {
                System.arraycopy(chosen, 0, entries, top, width);
                sink(0, count);
            }
        }

        /** Whether there is room for one more. */
        private boolean makeRoom() {
            int needed = (count + 1) * width;
            if (needed > LARGEST_ENTRIES || count < 0) {
                return false;
            }
            if (needed > entries.length) {
                entries = Arrays.copyOf(entries, Math.min(LARGEST_ENTRIES, Math.max(needed, 2 * entries.length)));
            }
            if (count >= order.length) {
                order = Arrays.copyOf(order, 2 * count + 1);
            }
            return true;
        }

        /** Moves the one at an index down a heap of so many to where it belongs. */
        private void sink(int index, int size) {
            int end = Math.min(size, order.length);
            int at = Math.max(0, index);
            for (int below = 2 * at + 1; below < end; below = 2 * below + 1) {
                if (below + 1 < end
                        && compare(entries, order[below + 1] * width, entries, order[below] * width) > 0) {
                    below++;
                }
                int own = order[at];
                if (compare(entries, own * width, entries, order[below] * width) >= 0) {
                    return;
                }
                order[at] = order[below];
                order[below] = own;
                at = below;
            }
        }

        /** Puts what is kept in its order: takes the last one off the heap again and again. */
        void sort() {
            if (isSorted && !isCut) {
                return;
            }
            for (int index = count / 2; index >= 0; index--) {
                sink(index, count);
            }
            for (int end = Math.min(count, order.length) - 1; end > 0; end--) {
                int last = order[0];
                order[0] = order[end];
                order[end] = last;
                sink(0, end);
            }
        }

        private int compare(int[] one, int oneFrom, int[] other, int otherFrom) {
            if (oneFrom < 0 || otherFrom < 0 || oneFrom + width > one.length || otherFrom + width > other.length) {
                return 0;
            }
            for (int row = 0; row < width; row++) {
                if (one[oneFrom + row] != other[otherFrom + row]) {
                    return one[oneFrom + row] - other[otherFrom + row];
                }
            }
            return 0;
        }

        int entryOf(int index, int row) {
            if (index < 0 || index >= count || row < 0 || row >= width) {
                return NONE;
            }
            return pick(entries, pick(order, index) * width + row);
        }
    }

    /**
     * Seeks the matches of a pattern. At each level one more hole is given a class; for each row there is
     * a set of entries, and for each hole one of classes: those that can be in a match as far as can be
     * seen without knowing that holes that stand twice are the same there. Once each of these is down to
     * one class, all that is left is in a match.
     */
    private static final class Search {
        final Frozen frozen;
        final Pattern pattern;
        final Sets sets = new Sets();
        final Finds finds;
        final Memory memory;
        final long[] ways = new long[LARGEST_SIDE * NODES];
        final int[] partAt = new int[SLOTS];
        // The holes that are down to one class at a level; bit 0 is for the hole 0.
        final int[] given = new int[LEVELS];
        boolean isListing = false;
        long most = 0L;

        Search(Frozen frozen, Pattern pattern) {
            this.frozen = frozen;
            this.pattern = pattern;
            this.finds = new Finds(frozen, pattern, sets);
            this.memory = new Memory(frozen, pattern, sets);
        }

        /** Sets down which entries have a class as their part, and which are in it. */
        void index() {
            sets.clear(FIRST_SETS, 3 * NODES);
            for (int entry = 0; entry < frozen.entries && entry < NODES; entry++) {
                sets.include(FIRST_SETS + frozen.firstOf[entry], entry);
                sets.include(SECOND_SETS + Math.max(0, frozen.secondOf[entry]), entry);
                sets.include(GROUP_SETS + frozen.groupOf[entry], entry);
            }
        }

        /** Prepares the lowest level; false if there are no matches. */
        boolean begin(char condition) {
            sets.clear(ALIVE_SETS, LARGEST_SIDE);
            sets.clear(HOLE_SETS, HOLES);
            sets.clear(LEAF_SETS, SLOTS);
            for (int row = 0; row < pattern.rows; row++) {
                int kind = pick(pattern.rowKind, row);
                int end = pick(frozen.starts, kind + 1);
                for (int entry = Math.max(0, pick(frozen.starts, kind)); entry < end; entry++) {
                    sets.include(ALIVE_SETS + row, entry);
                }
            }
            for (int slot = 0; slot < SLOTS; slot++) {
                sets.include(LEAF_SETS + slot, pick(pattern.slotGroup, slot));
            }
            for (int of = 0; of < frozen.count; of++) {
                for (int hole = 0; hole < HOLES; hole++) {
                    if (frozen.fits(of, hole == 0 ? condition : '-')) {
                        sets.include(HOLE_SETS + hole, of);
                    }
                }
            }
            return pattern.rows > 0 && settle(0);
        }

        /** Counts, up to a bound, or lists the matches that are left at a level. */
        private static long explore(Search search, int level) {
            int hole = level >= 0 && level < HOLES ? search.nextHole(level) : NONE;
            if (hole == NONE && !search.isListing) {
                return search.countWays(level);
            }
            long total = 0L;
            if (hole == NONE) {
                search.finds.rewind();
                for (; total < search.most && search.finds.advance(level); total++) {
                    search.finds.keep();
                }
                return total;
            }
            int given = pick(search.given, level);
            boolean isLast = (pick(search.pattern.rowHoles, 0) & ~given) == 1 << hole;
            long known = isLast ? NONE : search.memory.recall(level, given);
            if (known != NONE) {
                return known;
            }
            if (isLast) {
                search.setParts(level);
            }
            int group = search.sets.next(HOLE_SETS + level * HOLES + hole, 0);
            for (int i = 0; i < NODES && group != NONE && total < search.most; i++) {
                if (!isLast) {
                    search.give(level, hole, group);
                    total += search.settle(level + 1) ? explore(search, level + 1) : 0L;
                } else if (search.build(level, hole, group)) {
                    total++;
                    if (search.isListing) {
                        search.finds.keep();
                    }
                }
                group = search.sets.next(HOLE_SETS + level * HOLES + hole, group + 1);
            }
            // A list needs each match, so that only what has none can be passed over.
            if (!isLast && (total == 0L || !search.isListing)) {
                search.memory.remember(level, given, total);
            }
            return total;
        }

        /** Prepares for a count, up to a bound, or for a list. */
        void set(boolean isForList, long atMost) {
            memory.forget();
            isListing = isForList;
            most = atMost;
        }

        /** The hole to be given a class: of those that stand more than once, that with the fewest. */
        private int nextHole(int level) {
            int found = NONE;
            int least = NODES + 1;
            for (int hole = 0; hole < HOLES; hole++) {
                int groups = pattern.stands[hole] > 1 ? sets.count(HOLE_SETS + level * HOLES + hole) : 0;
                if (groups > 1 && groups < least) {
                    found = hole;
                    least = groups;
                }
            }
            return found;
        }

        /** Copies a level to the next one, with one class for the hole. */
        private void give(int level, int hole, int group) {
            int from = ALIVE_SETS + level * LARGEST_SIDE;
            sets.copy(from, from + LARGEST_SIDE, pattern.rows);
            from = HOLE_SETS + level * HOLES;
            sets.copy(from, from + HOLES, HOLES);
            sets.clear(from + HOLES + hole, 1);
            sets.include(from + HOLES + hole, group);
        }

        /** Takes from the sets of a level what can't be in a match; false if nothing is left. */
        private boolean settle(int level) {
            boolean again = true;
            // Each turn but the first finds one class less for one slot at least.
            for (int turn = 0; turn <= SLOTS * NODES && again; turn++) {
                for (int row = pattern.rows - 1; row >= 0; row--) {
                    if (isOpen(level, row) && !keepBuilt(level, row)) {
                        return false;
                    }
                }
                for (int row = 0; row < pattern.rows; row++) {
                    if (isOpen(level, row)) {
                        keepWanted(level, row);
                    }
                }
                again = !agree(level);
            }
            setGiven(level);
            return true;
        }

        /** Whether more than one entry was left for a row one level below, or may have been. */
        private boolean isOpen(int level, int row) {
            return level < 1 || (pick(pattern.rowHoles, row) & ~pick(given, level - 1)) != 0;
        }

        private void setGiven(int level) {
            if (level < 0 || level >= LEVELS) {
                return;
            }
            given[level] = 0;
            for (int hole = 0; hole < HOLES; hole++) {
                given[level] |= sets.count(HOLE_SETS + level * HOLES + hole) == 1 ? 1 << hole : 0;
            }
        }

        /** Keeps those entries of a row whose parts can be built; false if there is none. */
        private boolean keepBuilt(int level, int row) {
            int own = ALIVE_SETS + level * LARGEST_SIDE + row;
            int slot = 2 * row;
            int first = pick(pattern.slotSet, slot) + level * pick(pattern.slotStep, slot);
            int second = pick(pattern.slotSet, slot + 1) + level * pick(pattern.slotStep, slot + 1);
            boolean isDouble = pick(pattern.rowKind, row) >= PLUS;
            // Mostly there is one class for a part, and then the entries with it are there at once.
            sets.retainFor(own, FIRST_SETS, first);
            if (isDouble) {
                sets.retainFor(own, SECOND_SETS, second);
            }
            boolean any = false;
            sets.clear(BUILT_SETS + row, 1);
            int entry = sets.next(own, 0);
            for (int i = 0; i < NODES && entry != NONE; i++) {
                if (sets.has(first, pick(frozen.firstOf, entry))
                        && (!isDouble || sets.has(second, pick(frozen.secondOf, entry)))) {
                    sets.include(BUILT_SETS + row, pick(frozen.groupOf, entry));
                    any = true;
                } else {
                    sets.exclude(own, entry);
                }
                entry = sets.next(own, entry + 1);
            }
            return any;
        }

        /** Keeps those entries of a row that can be the part of an entry that was kept. */
        private void keepWanted(int level, int row) {
            int own = ALIVE_SETS + level * LARGEST_SIDE + row;
            int wanted = WANTED_SETS + pick(pattern.rowSlot, row);
            if (row > 0) {
                sets.retainFor(own, GROUP_SETS, wanted);
            }
            sets.clear(WANTED_SETS + 2 * row, 2);
            int entry = sets.next(own, 0);
            for (int i = 0; i < NODES && entry != NONE; i++) {
                if (row == 0 || sets.has(wanted, pick(frozen.groupOf, entry))) {
                    sets.include(WANTED_SETS + 2 * row, pick(frozen.firstOf, entry));
                    sets.include(WANTED_SETS + 2 * row + 1, pick(frozen.secondOf, entry));
                } else {
                    sets.exclude(own, entry);
                }
                entry = sets.next(own, entry + 1);
            }
        }

        /** Leaves each hole what is wanted wherever it stands; false if more is wanted somewhere. */
        private boolean agree(int level) {
            for (int slot = 0; slot < 2 * pattern.rows; slot++) {
                int hole = pick(pattern.slotHole, slot);
                if (hole != NONE) {
                    sets.retain(HOLE_SETS + level * HOLES + hole, WANTED_SETS + slot);
                }
            }
            for (int slot = 0; slot < 2 * pattern.rows; slot++) {
                int hole = pick(pattern.slotHole, slot);
                if (hole != NONE && !sets.isWithin(WANTED_SETS + slot, HOLE_SETS + level * HOLES + hole)) {
                    return false;
                }
            }
            return true;
        }

        /** Sets the classes of those parts that have but one at a level: leaves, and holes that are given. */
        private void setParts(int level) {
            for (int slot = 0; slot < 2 * pattern.rows && slot < SLOTS; slot++) {
                int hole = pick(pattern.slotHole, slot);
                int leaf = pick(pattern.slotGroup, slot);
                partAt[slot] = hole == NONE ? leaf : sets.next(HOLE_SETS + level * HOLES + hole, 0);
            }
        }

        /** Goes up from the leaves, with a class for the one hole that is not given; false if a node is missing. */
        private boolean build(int level, int hole, int group) {
            for (int row = Math.min(LARGEST_SIDE, pattern.rows) - 1; row >= 0; row--) {
                int own = ALIVE_SETS + level * LARGEST_SIDE + row;
                int first = pick(pattern.slotHole, 2 * row) == hole ? group : pick(partAt, 2 * row);
                int second = pick(pattern.slotHole, 2 * row + 1) == hole ? group : pick(partAt, 2 * row + 1);
                boolean isDouble = pick(pattern.rowKind, row) >= PLUS;
                int entry = sets.nextOfAll(own, FIRST_SETS + first, isDouble ? SECOND_SETS + second : own);
                int slot = pick(pattern.rowSlot, row);
                if (entry == NONE) {
                    return false;
                }
                finds.chosen[row] = entry;
                if (slot >= 0 && slot < SLOTS) {
                    partAt[slot] = pick(frozen.groupOf, entry);
                }
            }
            return true;
        }

        /** Counts the matches at a level where each hole that stands more than once is down to one class. */
        private long countWays(int level) {
            long total = 0L;
            for (int row = pattern.rows - 1; row >= 0; row--) {
                int own = ALIVE_SETS + level * LARGEST_SIDE + row;
                int entry = sets.next(own, 0);
                for (int i = 0; i < NODES && entry != NONE; i++) {
                    setWays(row, pick(frozen.groupOf, entry), 0L);
                    entry = sets.next(own, entry + 1);
                }
                total = 0L;
                entry = sets.next(own, 0);
                for (int i = 0; i < NODES && entry != NONE; i++) {
                    int group = pick(frozen.groupOf, entry);
                    long more = waysAt(2 * row, pick(frozen.firstOf, entry))
                            * waysAt(2 * row + 1, pick(frozen.secondOf, entry));
                    setWays(row, group, waysOf(row, group) + more);
                    total += more;
                    entry = sets.next(own, entry + 1);
                }
            }
            return total;
        }

        private void setWays(int row, int group, long many) {
            int index = row * NODES + group;
            if (group >= 0 && index >= 0 && index < ways.length) {
                ways[index] = many;
            }
        }

        private long waysOf(int row, int group) {
            int index = row * NODES + group;
            return group >= 0 && index >= 0 && index < ways.length ? ways[index] : 0L;
        }

        private long waysAt(int slot, int group) {
            int row = pick(pattern.slotRow, slot);
            return row == NONE ? 1L : waysOf(row, group);
        }
    }

    /** Finds matches in the graph as it was when it was frozen. */
    private static final class Matcher {
        final Terms terms;
        final Graph graph;
        final Readings readings;
        final Frozen frozen = new Frozen();
        final Pattern pattern = new Pattern();
        final Search search = new Search(frozen, pattern);
        final Finds finds = search.finds;
        final int[] holeClass = new int[HOLES];
        int node = NONE;
        boolean isPossible = false;

        Matcher(Terms terms, Graph graph, Readings readings) {
            this.terms = terms;
            this.graph = graph;
            this.readings = readings;
        }

        /** Keeps the graph as it is; it must have been rebuilt. */
        void freeze() {
            readings.readConstants();
            frozen.take(graph, readings);
            search.index();
        }

        /** Prepares for the matches of a left term in the frozen graph. */
        void aim(int left, char condition) {
            pattern.take(left, terms, graph, frozen);
            finds.restart();
            isPossible = search.begin(condition);
        }

        /** Counts the matches; if there are as many as 'most' or more, the answer is not below that. */
        long countUpTo(long most) {
            search.set(false, most);
            return isPossible ? Search.explore(search, 0) : 0L;
        }

        /**
         * Lists the first matches behind those that were listed, in their order, and tells if more are left;
         * 'all' is how many there are in all.
         */
        boolean gather(int all) {
            finds.proceed();
            search.set(true, all);
            if (isPossible) {
                Search.explore(search, 0);
            }
            finds.sort();
            return finds.isCut;
        }

        /** Chooses a match of the list; 'node' is its node then, and 'holeClass' tells its holes. */
        void choose(int index) {
            node = pick(frozen.nodeOf, finds.entryOf(index, 0));
            for (int hole = 0; hole < HOLES; hole++) {
                int slot = pattern.lastSlot[hole];
                int entry = finds.entryOf(index, slot >> 1);
                holeClass[hole] = pick((slot & 1) == 0 ? frozen.firstOf : frozen.secondOf, entry);
            }
        }
    }
}
