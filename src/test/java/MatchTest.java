import java.util.ArrayList;
import java.util.Arrays;
import java.util.HashMap;
import java.util.List;
import java.util.Map;

/**
 * Matches of large left terms, with holes that stand many times, in crowded classes: each choice of classes
 * for the holes is tried, and the count and the order of the matches must be those that are found so.
 */
public final class MatchTest {
    private static int wrong = 0;
    private static int patterns = 0;
    private static long matches = 0;

    private final SaturnalGraph x = new SaturnalGraph();
    private final Map<String, Integer> nodeOf = new HashMap<>();
    private final List<Integer> groups = new ArrayList<>();
    private final List<String> spelt = new ArrayList<>();
    private final int[] first = new int[120];
    private final int[] second = new int[120];
    private final int[] holesIn = new int[120];
    private final long firstSeed;
    private long seed;

    private MatchTest(long seed) {
        this.firstSeed = seed;
        this.seed = seed * 104729 + 7;
    }

    private int next(int bound) {
        seed = seed * 6364136223846793005L + 1442695040888963407L;
        return (int) ((seed >>> 33) % bound);
    }

    private int note(int term, String kind, int one, int other) {
        while (spelt.size() <= term) {
            spelt.add("");
        }
        spelt.set(term, kind);
        first[term] = one;
        second[term] = other;
        holesIn[term] = kind.charAt(0) == 'h' ? 1 << one : (one < 0 || kind.charAt(0) == 'v' ? 0 : holesIn[one])
                | (other < 0 ? 0 : holesIn[other]);
        return term;
    }

    private int variable(int i) {
        return note(x.variable(i), "v", i, -1);
    }

    private int hole(int i) {
        return note(x.hole(i), "h", i, -1);
    }

    private int one(int part) {
        return note(x.one('f', part), "f", part, -1);
    }

    private int two(char sign, int one, int other) {
        return note(x.two(sign, one, other), "" + sign, one, other);
    }

    /** Pairs of some values are put into the graph, and joined with some value, or with none. */
    private void makeGraph() {
        int many = 2 + next(6);
        int[] values = new int[many];
        for (int i = 0; i < many; i++) {
            values[i] = i < 6 ? variable(i) : one(values[i - 1]);
            x.put(values[i]);
        }
        int crowd = next(many);
        int kept = next(2) == 0 ? 10 : 3 + next(7);
        int alone = next(4) == 0 ? 6 : 0;
        int towards = next(3);
        for (int i = 0; i < many * many; i++) {
            if (next(10) < kept) {
                putPair(two('g', values[i / many], values[i % many]), values, next(3) < towards ? crowd : next(many),
                        next(10) < alone);
            }
        }
        for (int i = next(3); i < many; i++) {
            if (next(5) != 0) {
                putPair(one(values[i]), values, next(2) == 0 ? crowd : next(many), false);
            }
        }
        x.rebuild();
        for (int node = 0; node < x.nodes(); node++) {
            nodeOf.putIfAbsent(key(node), node);
            if (x.classOf(node) == node) {
                groups.add(node);
            }
        }
    }

    private void putPair(int pair, int[] values, int value, boolean isAlone) {
        x.put(pair);
        if (!isAlone) {
            x.join(pair, values[value]);
        }
    }

    private String key(int node) {
        char kind = x.kindOf(node);
        if (kind == 'v') {
            return "v " + x.numberOf(node);
        }
        return kind + " " + x.part(node, 0) + (kind == 'f' ? "" : " " + x.part(node, 1));
    }

    private int makePattern(int size, int holes) {
        if (size <= 1) {
            return next(12) == 0 ? variable(next(4)) : hole(next(holes));
        }
        if (size == 2 || next(7) == 0) {
            return one(makePattern(size - 1, holes));
        }
        int share = next(3) == 0 ? 1 : next(2) == 0 ? size - 2 : 1 + next(size - 2);
        int part = makePattern(share, holes);
        return two('g', part, makePattern(size - 1 - share, holes));
    }

    /** The class of a term whose holes are these classes, -1 if there is none; adds its nodes, from the top. */
    private int classOf(int term, int[] holes, List<Integer> nodes) {
        char kind = spelt.get(term).charAt(0);
        if (kind == 'h') {
            return holes[first[term]];
        }
        String key = "v " + first[term];
        int at = nodes.size();
        if (kind != 'v') {
            nodes.add(-1);
            int one = classOf(first[term], holes, nodes);
            int other = one < 0 || kind == 'f' ? 0 : classOf(second[term], holes, nodes);
            if (one < 0 || other < 0) {
                return -1;
            }
            key = kind + " " + one + (kind == 'f' ? "" : " " + other);
        }
        Integer node = nodeOf.get(key);
        if (node == null) {
            return -1;
        }
        if (kind != 'v') {
            nodes.set(at, node);
        }
        return x.classOf(node);
    }

    /** All matches in their order, each as its class, its nodes from the top, and its holes. */
    private List<int[]> allMatches(int term) {
        List<int[]> found = new ArrayList<>();
        int[] choice = new int[5];
        int[] holes = new int[4];
        while (choice[4] == 0) {
            for (int h = 0; h < 4; h++) {
                holes[h] = groups.get(choice[h]);
            }
            List<Integer> nodes = new ArrayList<>();
            int group = classOf(term, holes, nodes);
            if (group >= 0) {
                int[] match = new int[nodes.size() + 5];
                match[0] = group;
                for (int i = 0; i < nodes.size(); i++) {
                    match[i + 1] = nodes.get(i);
                }
                System.arraycopy(holes, 0, match, nodes.size() + 1, 4);
                found.add(match);
            }
            int at = 0;
            while (at < 4 && ((holesIn[term] >> at & 1) == 0 || choice[at] == groups.size() - 1)) {
                choice[at] = 0;
                at++;
            }
            choice[at]++;
        }
        found.sort(Arrays::compare);
        return found;
    }

    private void due(Object got, Object want, String what) {
        if (!got.equals(want)) {
            wrong++;
            System.out.println("seed " + firstSeed + ", " + what + ": " + got + ", due is " + want);
        }
    }

    /** A right term with all holes of the left one: (h0 - (h1 - h2)), or (h0 - h0) if there is but one. */
    private int rightTerm(int holes) {
        int term = -1;
        for (int h = 3; h >= 0; h--) {
            if ((holes >> h & 1) != 0) {
                int own = hole(h);
                term = term < 0 ? own : two('-', own, term);
            }
        }
        return spelt.get(term).equals("h") ? two('-', term, term) : term;
    }

    /** Puts the right term of a match into a list of nodes, as keys; false if there is no room. */
    private boolean putRight(int term, int[] match, int room, List<String> nodes) {
        char kind = spelt.get(term).charAt(0);
        if (kind == 'h') {
            return true;
        }
        if (!putRight(second[term], match, room, nodes)) {
            return false;
        }
        String key = rightKey(term, match, nodes);
        if (!nodes.contains(key) && nodes.size() >= room) {
            return false;
        }
        if (!nodes.contains(key)) {
            nodes.add(key);
        }
        return true;
    }

    /** A hole is told by its class, another part by the place of its node in the list. */
    private String rightKey(int term, int[] match, List<String> nodes) {
        String other = spelt.get(second[term]).equals("h") ? "" + match[match.length - 4 + first[second[term]]]
                : "#" + nodes.indexOf(rightKey(second[term], match, nodes));
        return match[match.length - 4 + first[first[term]]] + " " + other;
    }

    /** The new nodes tell in which order the matches were applied. */
    private void checkOrder(int rule, int right, List<int[]> all) {
        x.setLimit(rule, 999);
        int before = x.nodes();
        List<String> nodes = new ArrayList<>();
        int applied = 0;
        while (applied < all.size() && putRight(right, all.get(applied), 300 - before, nodes)) {
            applied++;
        }
        x.round();
        due(x.applied(rule), applied, "applied");
        due(x.isSpent(), applied < all.size(), "isSpent");
        due(x.nodes(), before + nodes.size(), "nodes");
        for (int i = 0; i < nodes.size() && wrong == 0; i++) {
            String[] parts = nodes.get(i).split(" ");
            due("" + x.part(before + i, 0), parts[0], "first part of " + (before + i));
            if (parts[1].charAt(0) != '#') {
                due("" + x.part(before + i, 1), parts[1], "second part of " + (before + i));
            } else {
                int place = Integer.parseInt(parts[1].substring(1));
                due(x.part(before + i, 1), x.classOf(before + place), "second part of " + (before + i));
            }
        }
    }

    private void run() {
        makeGraph();
        x.setNodes(300);
        int holes = 1 + next(4);
        int size = 2 + next(next(3) != 0 ? 12 : 38);
        int left = makePattern(size, holes);
        while (spelt.get(left).charAt(0) == 'h' || spelt.get(left).charAt(0) == 'v') {
            left = one(left);
        }
        List<int[]> all = allMatches(left);
        int right = holesIn[left] == 0 ? left : rightTerm(holesIn[left]);
        int rule = x.rule(left, right, '-');
        patterns++;
        matches += all.size();
        due(x.matches(rule), all.size(), "matches");
        if (holesIn[left] != 0 && all.size() <= 999) {
            checkOrder(rule, right, all);
        }
    }

    public static void main(String[] arguments) {
        int from = arguments.length > 0 ? Integer.parseInt(arguments[0]) : 0;
        int to = arguments.length > 1 ? Integer.parseInt(arguments[1]) : 1500;
        for (int i = from; i < to && wrong == 0; i++) {
            new MatchTest(i).run();
        }
        System.out.println(patterns + " left terms with " + matches + " matches, " + wrong + " wrong");
        if (wrong != 0) {
            System.exit(1);
        }
    }
}
