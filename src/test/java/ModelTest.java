import java.lang.reflect.InvocationTargetException;
import java.lang.reflect.Method;
import java.util.ArrayList;
import java.util.HashMap;
import java.util.List;
import java.util.Map;

/** Long runs of calls, made from seeds, answered by the class and by ModelGraph: the answers must be the same. */
public final class ModelTest {
    private static final Map<String, Method> OURS = methodsOf(SaturnalGraph.class);
    private static final Map<String, Method> MODELS = methodsOf(ModelGraph.class);
    private static final String[] IDENTITIES = {
        "+ab=+ba", "++abc=+a+bc", "+a+bc=++abc", "*ab=*ba", "**abc=*a*bc", "*a+bc=+*ab*ac", "+*ab*ac=*a+bc",
        "+a0=a", "*a1=a", "*a0=0", "-aa=0", "-ab=+a~b", "~~a=a", "+a~a=0", "+aa=*2a", "*2a=+aa", "fa=+*7a3",
        "gab=+*uaa", "faz=a", "ga=fa", "gaa=a", "gab=gba", "ggabc=gagbc", "fffa=a", "a=a", "fa=ffa", "gab=gfab",
        "*ab=gab", "+ga0b=gab", "gab=a", "g0a=fa", "-a0=a", "~+ab=+~a~b", "gfafb=fgab", "f1=2", "gxa=gay",
        "++ab+cd=++ac+bd", "gagab=b", "g++abc+ab=c", "-*ab*ac=*a-bc", "gab=gff~fab"};
    private static int wrong = 0;
    private static int calls = 0;

    private final List<String> log = new ArrayList<>();
    private final List<Integer> ground = new ArrayList<>();
    private final List<Integer> put = new ArrayList<>();
    private final SaturnalGraph ours = new SaturnalGraph();
    private final ModelGraph model = new ModelGraph();
    private long seed;
    private final int style;
    private boolean isGivenUp = false;

    private ModelTest(long seed) {
        this.seed = seed * 7919 + 17;
        this.style = (int) (seed % 4);
    }

    private static Map<String, Method> methodsOf(Class<?> type) {
        Map<String, Method> found = new HashMap<>();
        for (Method m : type.getDeclaredMethods()) {
            m.setAccessible(true);
            found.put(m.getName() + m.getParameterCount(), m);
        }
        return found;
    }

    private int next(int bound) {
        seed = seed * 6364136223846793005L + 1442695040888963407L;
        return (int) ((seed >>> 33) % bound);
    }

    private static String answer(Method m, Object target, Object[] arguments) throws IllegalAccessException {
        try {
            Object got = m.invoke(target, arguments);
            return got instanceof Character ? "" + (int) (Character) got : "" + got;
        } catch (InvocationTargetException e) {
            if (e.getCause() instanceof ModelGraph.TooSlow) {
                return "slow";
            }
            if (e.getCause() instanceof Error) {
                throw new IllegalStateException(e.getCause());
            }
            return "throws " + e.getCause().getClass().getSimpleName();
        }
    }

    /** Now and then an int far outside takes the place of another. */
    private void makeWild(Object[] arguments) {
        int[] far = {Integer.MIN_VALUE, Integer.MAX_VALUE, -1, 1 << 16, Integer.MIN_VALUE + 1};
        int index = next(200);
        if (index < arguments.length && arguments[index] instanceof Integer) {
            arguments[index] = far[next(far.length)];
        }
    }

    private String call(String name, Object... arguments) {
        makeWild(arguments);
        if (isGivenUp || log.size() >= 512) {
            isGivenUp = true;
            return "";
        }
        try {
            String due = answer(MODELS.get(name + arguments.length), model, arguments);
            if (due.equals("slow")) {
                isGivenUp = true;
                return "";
            }
            String got = answer(OURS.get(name + arguments.length), ours, arguments);
            StringBuilder line = new StringBuilder(name).append('(');
            for (Object a : arguments) {
                line.append(a).append(' ');
            }
            log.add(line.append(") ").append(got).toString());
            calls++;
            if (!got.equals(due)) {
                wrong++;
                isGivenUp = true;
                System.out.println("due is " + due + " at the end of:\n  " + String.join("\n  ", log));
            }
            return due;
        } catch (IllegalAccessException e) {
            throw new IllegalStateException(e);
        }
    }

    private static int asTerm(String answer) {
        return answer.isEmpty() || answer.charAt(0) == 't' ? -1 : Integer.parseInt(answer);
    }

    private int position;

    /** Makes the terms of a text with the operator ahead of its parts. */
    private int spell(String text) {
        char c = text.charAt(position);
        position++;
        if (c == '~' || c == 'f') {
            return asTerm(call("one", c, spell(text)));
        }
        if ("+-*g".indexOf(c) >= 0) {
            int first = spell(text);
            int second = position < text.length() && text.charAt(position) != '=' ? spell(text) : first;
            return asTerm(call("two", c, first, second));
        }
        if (c >= 'a' && c <= 'd') {
            return asTerm(call("hole", c - 'a'));
        }
        if (c >= 'u' && c <= 'z') {
            return asTerm(call("variable", c - 'u'));
        }
        return asTerm(call("number", c - '0'));
    }

    private String randomText(int depth, String leaves) {
        int kind = depth == 0 ? 0 : next(6);
        if (kind < 1 + (depth < 3 ? 1 : 0)) {
            return "" + leaves.charAt(next(leaves.length()));
        }
        if (kind == 5) {
            return (style == 3 ? "f" : "~") + randomText(depth - 1, leaves);
        }
        String sign = style == 3 ? "g" : style == 1 ? "+" : "" + "+*-g".charAt(next(4));
        return sign + randomText(depth - 1, leaves) + randomText(depth - 1, leaves);
    }

    private String randomRule() {
        String leaves = next(2) == 0 ? "aabbcd" : next(2) == 0 ? "ab" : "abc01u";
        return randomText(4, leaves) + "=" + randomText(2, leaves);
    }

    private void addIdentity() {
        String text = next(3) == 0 ? randomRule() : IDENTITIES[next(IDENTITIES.length)];
        position = 0;
        int left = spell(text);
        position = text.indexOf('=') + 1;
        int right = spell(text);
        call("rule", left, right, "---nz".charAt(next(5)));
    }

    private int someTerm() {
        return next(40) == 0 ? next(140) - 5 : next(Math.max(1, model.terms()));
    }

    /** Mostly one without holes. */
    private int someGround() {
        return ground.isEmpty() || next(25) == 0 ? someTerm() : ground.get(next(ground.size()));
    }

    /** Mostly one that is in the graph. */
    private int somePut() {
        return put.isEmpty() || next(25) == 0 ? someTerm() : put.get(next(put.size()));
    }

    private void noteTerm(String answer) {
        int term = asTerm(answer);
        if (term >= 0 && !model.hasHole(term)) {
            ground.add(term);
        }
    }

    private int someNode() {
        return next(40) == 0 ? next(400) - 20 : next(Math.max(1, model.nodes()));
    }

    private int someRule() {
        return next(14) == 0 ? next(16) - 2 : next(3);
    }

    private void addTerm() {
        int kind = next(24);
        if (kind < 4) {
            noteTerm(call("number", next(12) == 0 ? next(300) - 150 : next(style == 0 ? 4 : 40)));
        } else if (kind < 7) {
            noteTerm(call("variable", next(15) == 0 ? next(10) - 2 : next(style == 0 ? 3 : 6)));
        } else if (kind < 8) {
            call("hole", next(15) == 0 ? next(8) - 2 : next(3));
        } else if (kind < 12) {
            noteTerm(call("one", "~ff+x".charAt(next(20) == 0 ? next(5) : style == 3 ? 1 : next(2)), someGround()));
        } else {
            noteTerm(call("two", "+*g-~q".charAt(next(20) == 0 ? next(6) : style == 3 ? 2 : style == 1 ? 0 : next(4)),
                    someGround(), someGround()));
        }
    }

    private void putTerm() {
        int term = someGround();
        if (asTerm(call("put", term)) >= 0) {
            put.add(term);
        }
    }

    private void change() {
        int kind = next(26);
        if (kind < 5) {
            putTerm();
        } else if (kind < 9) {
            if (style == 0 || next(style == 3 ? 3 : 8) == 0) {
                call("join", somePut(), somePut());
            }
        } else if (kind < 12) {
            call("rebuild");
        } else if (kind < 15) {
            call("round");
        } else if (kind < 17) {
            call("saturate", next(20) == 0 ? next(30) - 3 : next(style == 1 ? 20 : 4) + 1);
        } else if (kind == 17) {
            call("push");
        } else if (kind == 18) {
            call("pop");
        } else if (kind == 19) {
            call("setLimit", someRule(), next(3) == 0 ? next(1100) - 20 : next(8) + 1);
        } else if (kind == 20 && next(3) == 0) {
            call("setNodes", next(8) == 0 ? next(330) : 10 + next(style == 2 ? 30 : 120));
        } else if (kind == 21) {
            call("setCost", "~f+-*gnvx".charAt(next(8) == 0 ? next(9) : next(6)),
                    next(6) == 0 ? next(120) - 5 : next(9) + 1);
        } else if (kind == 22 && next(3) == 0) {
            addIdentity();
        } else if (kind == 23) {
            call("rule", someTerm(), someTerm(), "-nzx".charAt(next(12) == 0 ? 3 : next(3)));
        } else {
            addTerm();
        }
    }

    private void ask() {
        int node = someNode();
        switch (next(36)) {
            case 0: call("terms"); break;
            case 1: call("size", someTerm()); break;
            case 2: call("value", someTerm(), next(9) - 4, next(9) - 4); break;
            case 3: call("holds", someRule(), next(9) - 4, next(9) - 4); break;
            case 4: call("areSame", somePut(), somePut()); break;
            case 5: call("isDue"); break;
            case 6: call("nodes"); break;
            case 7: call("classes"); break;
            case 8: call("classOf", node); break;
            case 9: call("nodesIn", node); break;
            case 10: call("kindOf", node); break;
            case 11: call("numberOf", node); break;
            case 12: call("part", node, next(4) - 1); break;
            case 13: call("constant", node); break;
            case 14: call("free", node); break;
            case 15: call("clashes"); break;
            case 16: call("matches", someRule()); break;
            case 17: call("rounds"); break;
            case 18: call("isSpent"); break;
            case 19: call("banned", someRule()); break;
            case 20: call("applied", someRule()); break;
            case 21: call("cost", node); break;
            case 22: call("best", node); break;
            case 23: call("sharedCost", node); break;
            case 24: call("bestValue", node, next(9) - 4, next(9) - 4); break;
            case 25: call("sum"); break;
            case 26: call("constantShare"); break;
            case 27: call("meanNodes"); break;
            case 28: call("isSound"); break;
            case 29: case 30: call("why", somePut(), somePut()); break;
            default: askWhy(); break;
        }
    }

    private void askWhy() {
        for (int i = 0; i < 40; i++) {
            int first = somePut();
            int second = somePut();
            if (i < 36 && (first == second || !model.isOneClass(first, second))) {
                continue;
            }
            String length = call("why", first, second);
            if (!length.isEmpty() && length.charAt(0) != 't') {
                int steps = Integer.parseInt(length);
                call("whyAt", first, second, next(6) == 0 ? next(1200) - 50 : next(steps + 1));
                call("whyAt", first, second, Math.min(steps, 999) - 1);
                return;
            }
        }
    }

    private void run() {
        for (int i = 0; i < 2 + next(4); i++) {
            addIdentity();
        }
        for (int i = 0; i < 8 + next(25); i++) {
            addTerm();
        }
        for (int i = 0; i < 1 + next(5); i++) {
            putTerm();
        }
        while (!isGivenUp && log.size() < 400) {
            change();
            ask();
            if (next(3) == 0) {
                ask();
            }
        }
        for (int node = 0; node < 300 && !isGivenUp && node < model.nodes(); node++) {
            call("classOf", node);
        }
    }

    public static void main(String[] arguments) {
        int from = arguments.length > 0 ? Integer.parseInt(arguments[0]) : 0;
        int to = arguments.length > 1 ? Integer.parseInt(arguments[1]) : 250;
        for (int i = from; i < to && wrong < 3; i++) {
            new ModelTest(i).run();
        }
        System.out.println(calls + " calls compared, " + wrong + " wrong");
        if (wrong != 0) {
            System.exit(1);
        }
    }
}
