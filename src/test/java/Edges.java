import java.io.IOException;
import java.nio.file.Files;
import java.nio.file.Path;
import java.util.ArrayList;
import java.util.List;
import java.util.Map;
import java.util.TreeMap;

/**
 * What the tests of boundary cases share: each test stands under the words of DOC.md that it is for, which
 * must be there. A refused call must leave all that can be seen as it was.
 */
final class Edges {
    interface Test {
        void run();
    }

    interface Call {
        Object run();
    }

    interface IndexCall {
        Object run(int index);
    }

    static final Class<?> INDEX = IndexOutOfBoundsException.class;
    static final Class<?> ARGUMENT = IllegalArgumentException.class;
    static final Class<?> STATE = IllegalStateException.class;
    static final Class<?> UNSUPPORTED = UnsupportedOperationException.class;
    static final Class<?> NO_SUCH = java.util.NoSuchElementException.class;
    static final Class<?> ARITHMETIC = ArithmeticException.class;

    private static final Map<String, String> SECTIONS = new TreeMap<>();
    private static final Map<String, List<String>> QUOTED = new TreeMap<>();
    private static String section = "";
    private static String words = "";
    private static int tests = 0;
    private static int checks = 0;
    private static int wrong = 0;

    private Edges() { }

    // The document

    /** Reads the document: a section for each promise, and one for each paragraph with a title ahead of them. */
    static void open() throws IOException {
        String title = "";
        for (String paragraph : Files.readString(Path.of("../shared/DOC.md")).split("\n\\s*\n|\n(?=- `)")) {
            String text = oneLine(paragraph);
            if (text.startsWith("## ")) {
                title = text.substring(3);
                continue;
            }
            String own = text.replaceAll("^(Graph|Links|Rebuilding|Constants|Free variables|Rules|Rounds|Costs|"
                    + "Exceptions)\\. .*", "$1");
            title = own.equals(text) ? title : own;
            SECTIONS.merge(title, text, (a, b) -> a + "\n" + b);
        }
    }

    private static String oneLine(String text) {
        return text.trim().replaceAll("\\s+", " ");
    }

    /** The tests that follow are for sentences of this section. */
    static void at(String title) {
        section = title;
        if (!SECTIONS.containsKey(title)) {
            complain("there is no section " + title);
        }
    }

    /** A test for a sentence, or a part of one, of the section. */
    static void edge(String sentence, Test test) {
        words = sentence;
        tests++;
        QUOTED.computeIfAbsent(section, k -> new ArrayList<>()).add(sentence);
        if (!SECTIONS.getOrDefault(section, "").contains(sentence)) {
            complain("the section has no such words");
        }
        try {
            test.run();
        } catch (RuntimeException e) {
            complain("ended by " + e);
        }
    }

    /** Complains of each sentence of a section for which there was no test. */
    static void requireAll(String title) {
        section = title;
        for (String line : SECTIONS.getOrDefault(title, "").split("\n")) {
            for (String sentence : line.split("(?<=[a-z0-9]\\.) (?=[A-Z])")) {
                words = sentence;
                boolean isTitle = sentence.length() < 16;
                if (!isTitle && !isQuoted(title, sentence)) {
                    complain("there is no test for this sentence");
                }
            }
        }
    }

    private static boolean isQuoted(String title, String sentence) {
        for (String quote : QUOTED.getOrDefault(title, List.of())) {
            if (sentence.contains(quote)) {
                return true;
            }
        }
        return false;
    }

    /** Complains of each promise with a line that names an exception or a range and has no test. */
    static void requireThrows() {
        for (String title : SECTIONS.keySet()) {
            for (String line : SECTIONS.get(title).split("\n")) {
                section = title;
                words = line;
                boolean hasRange = line.startsWith("- `") && line.matches(".*(\\d to |from 0).*");
                if (title.startsWith("Promise") && (line.startsWith("Throws") || hasRange) && !isQuoted(title, line)) {
                    complain("there is no test for this line");
                }
            }
            if (title.startsWith("Promise") && !QUOTED.containsKey(title)) {
                complain("there is no test for this promise");
            }
        }
    }

    static void end() {
        System.out.println(tests + " tests of sentences, " + checks + " checks, " + wrong + " wrong");
        if (wrong != 0) {
            System.exit(1);
        }
    }

    // Checks

    private static void complain(String text) {
        wrong++;
        System.out.println(section + ", \"" + words + "\": " + text);
    }

    private static int lineOfTest() {
        for (StackTraceElement at : new Throwable().getStackTrace()) {
            if (!at.getClassName().startsWith("Edges")) {
                return at.getLineNumber();
            }
        }
        return 0;
    }

    static void due(Object want, Object got) {
        checks++;
        if (!want.equals(got)) {
            complain("line " + lineOfTest() + ": " + got + ", due is " + want);
        }
    }

    /** The call must throw this, and change nothing. */
    static void refused(SaturnalGraph x, Class<?> want, Call call) {
        checks++;
        String before = look(x);
        Object got;
        try {
            got = call.run();
        } catch (RuntimeException e) {
            got = e.getClass();
        }
        if (!want.equals(got)) {
            complain("line " + lineOfTest() + ": " + got + ", due is " + want);
        }
        String after = look(x);
        if (!before.equals(after)) {
            complain("line " + lineOfTest() + ": it changed " + whereUnlike(before, after));
        }
    }

    /** The call must throw this for each number just and far outside of 0 to count - 1. */
    static void refusedOutside(SaturnalGraph x, Class<?> want, int count, IndexCall call) {
        for (int index : new int[] {-1, count, Integer.MIN_VALUE, Integer.MAX_VALUE}) {
            refused(x, want, () -> call.run(index));
        }
    }

    private static String whereUnlike(String one, String other) {
        int at = 0;
        while (at < one.length() && at < other.length() && one.charAt(at) == other.charAt(at)) {
            at++;
        }
        int from = Math.max(0, at - 20);
        return one.substring(from, Math.min(one.length(), at + 20)) + " to "
                + other.substring(from, Math.min(other.length(), at + 20));
    }

    private static String tell(Call call) {
        try {
            return call.run() + " ";
        } catch (RuntimeException e) {
            if (!List.of(INDEX, ARGUMENT, STATE, UNSUPPORTED, NO_SUCH, ARITHMETIC).contains(e.getClass())) {
                complain("line " + lineOfTest() + ": " + e);
            }
            return e.getClass().getSimpleName().substring(0, 3) + " ";
        }
    }

    /** All that can be seen of an object, but for its stack, in one text. */
    static String look(SaturnalGraph x) {
        StringBuilder s = new StringBuilder();
        s.append(x.terms()).append(' ').append(x.rounds()).append(x.isDue()).append(x.isSpent()).append(x.isSound());
        int limit = x.setNodes(77);
        s.append(limit);
        x.setNodes(limit);
        for (int t = 0; t < x.terms(); t++) {
            int term = t;
            s.append(" t").append(x.size(t)).append(' ').append(tell(() -> x.value(term, 3, 5)));
            s.append(tell(() -> x.areSame(term, term)));
            s.append(tell(() -> x.why(0, term))).append(tell(() -> x.why(term, term / 2)));
        }
        for (int n = 0; n < x.nodes(); n++) {
            int node = n;
            s.append(" n").append(x.kindOf(n)).append(x.classOf(n)).append(' ').append(tell(() -> x.numberOf(node)));
            s.append(tell(() -> x.part(node, 0))).append(tell(() -> x.part(node, 1)));
            s.append(x.nodesIn(n)).append(' ').append(tell(() -> x.constant(node))).append(x.free(n)).append(' ');
            s.append(x.cost(n)).append(' ').append(tell(() -> x.best(node))).append(tell(() -> x.sharedCost(node)));
            s.append(tell(() -> x.bestValue(node, 3, 5)));
        }
        s.append(x.classes()).append(' ').append(x.clashes()).append(' ').append(tell(x::constantShare));
        s.append(tell(x::meanNodes));
        for (int r = 0; r < 12; r++) {
            int rule = r;
            s.append(" r").append(tell(() -> x.banned(rule))).append(tell(() -> x.applied(rule)));
            s.append(tell(() -> x.matches(rule))).append(tell(() -> x.holds(rule, 3, 5)));
            s.append(tell(() -> {
                int before = x.setLimit(rule, 5);
                // A limit that was doubled beyond 999 can't be set back.
                if (before <= 999) {
                    x.setLimit(rule, before);
                }
                return before;
            }));
        }
        for (char c : "~f+-*g".toCharArray()) {
            int cost = x.setCost(c, 1);
            x.setCost(c, cost);
            s.append(cost).append(' ');
        }
        return s.append(x.sum()).toString();
    }

    // What is made of texts

    /**
     * Makes the terms of a text, the operator ahead of its parts: u to z are the variables, a to d the holes,
     * digits numbers. Answers the last one.
     */
    static int term(SaturnalGraph x, String text) {
        return spell(x, text, new int[1]);
    }

    private static int spell(SaturnalGraph x, String text, int[] position) {
        char c = text.charAt(position[0]);
        position[0]++;
        if (c == '~' || c == 'f') {
            return x.one(c, spell(x, text, position));
        }
        if ("+-*g".indexOf(c) >= 0) {
            int first = spell(x, text, position);
            return x.two(c, first, spell(x, text, position));
        }
        if (c >= 'a' && c <= 'd') {
            return x.hole(c - 'a');
        }
        return c >= 'u' && c <= 'z' ? x.variable(c - 'u') : x.number(c - '0');
    }

    /** Makes the terms of a text and puts the last one into the graph; answers the term. */
    static int in(SaturnalGraph x, String text) {
        int term = term(x, text);
        x.put(term);
        return term;
    }

    /** Joins two terms that are made of texts and put in. */
    static void fact(SaturnalGraph x, String one, String other) {
        int first = in(x, one);
        x.join(first, in(x, other));
    }

    /** The node of a term that is made of a text and put in. */
    static int node(SaturnalGraph x, String text) {
        return x.put(term(x, text));
    }

    /** Adds a rule that is made of a text with a '=' between its sides. */
    static int rule(SaturnalGraph x, String text, char condition) {
        int at = text.indexOf('=');
        int left = term(x, text.substring(0, at));
        return x.rule(left, term(x, text.substring(at + 1)), condition);
    }

    static int rule(SaturnalGraph x, String text) {
        return rule(x, text, '-');
    }

    /** Puts an operator of one term so many times round a term. */
    static int wrap(SaturnalGraph x, char operator, int term, int times) {
        int t = term;
        for (int i = 0; i < times; i++) {
            t = x.one(operator, t);
        }
        return t;
    }

    /** An object with so many terms, the number 0 and then variables. */
    static SaturnalGraph withTerms(int many) {
        SaturnalGraph x = new SaturnalGraph();
        x.number(0);
        for (int i = 1; i < many; i++) {
            x.variable(i % 6);
        }
        return x;
    }

    /** A term of this size with few terms. */
    static int large(SaturnalGraph x, int size) {
        if (size == 1) {
            return x.number(1);
        }
        int part = large(x, size % 2 == 1 ? size / 2 : size - 1);
        return size % 2 == 1 ? x.two('g', part, part) : x.one('~', part);
    }
}
