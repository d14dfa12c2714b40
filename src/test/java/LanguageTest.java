import java.io.IOException;
import java.io.PrintWriter;
import java.io.StringWriter;
import java.lang.reflect.Constructor;
import java.lang.reflect.Member;
import java.lang.reflect.Method;
import java.lang.reflect.Modifier;
import java.nio.file.Files;
import java.nio.file.Path;
import java.util.ArrayList;
import java.util.Arrays;
import java.util.List;
import java.util.Map;
import java.util.Set;
import java.util.TreeMap;
import java.util.TreeSet;
import java.util.regex.Matcher;
import java.util.regex.Pattern;
import java.util.spi.ToolProvider;

/** Some of what LANGUAGE.md rules out, and the face of DOC.md. */
public final class LanguageTest {
    private static final String[] FORBIDDEN = {
        "->", "::", "\\bcatch\\b", "\\bfinally\\b", "\\bsynchronized\\b", "\\bassert\\b", "\\bNaN\\b", "\\bSystem\\.(?!arraycopy)",
        "\\bMath\\.(?!min|max|abs|floorDiv|floorMod)", "\\bArrays\\.(?!fill|copyOf)", "\\bRandom\\b", "\\bThread\\b",
        "\\bhashCode\\b", "\\btoString\\b", "\\bequals\\b", "\\bpackage\\b", "\\bprotected\\b", "\\binterface\\b",
        "^import (?!java\\.util\\.(Arrays|NoSuchElementException);)"};
    private static int wrong = 0;

    private static void complain(String text) {
        wrong++;
        System.out.println(text);
    }

    private static void checkText(String text) {
        String code = text.replaceAll("(?s)/\\*.*?\\*/", "").replaceAll("//[^\n]*", "").replaceAll("\"[^\"\n]*\"", "\"\"");
        for (String f : FORBIDDEN) {
            Matcher m = Pattern.compile(f, Pattern.MULTILINE).matcher(code);
            if (m.find()) {
                complain("the class has: " + m.group());
            }
        }
        for (char c : text.toCharArray()) {
            if (c > 126 || c < 32 && c != '\n') {
                complain("the class has the sign " + (int) c);
                return;
            }
        }
    }

    /** Rule 11: methods of some sixty lines, some twelve classes. A body ends at a brace as far in as its head. */
    private static void checkLengths(String text) {
        String[] lines = text.split("\n");
        int classes = 0;
        int methods = 0;
        for (int i = 0; i < lines.length; i++) {
            String indent = lines[i].replaceAll("\\S.*", "");
            classes += lines[i].matches(" *(public|private static) final class \\w+ \\{") ? 1 : 0;
            if (!lines[i].matches(" +[\\w\\[\\]]+ [\\w\\[\\] ]+\\(.*") || lines[i].matches(" +(if|for|while|switch|return|throw|else)\\b.*")
                    || lines[i].endsWith(";")) {
                continue;
            }
            int end = i + 1;
            while (end < lines.length && !lines[end].equals(indent + "}")) {
                end++;
            }
            methods++;
            if (end - i + 1 > 60) {
                complain("more than sixty lines: " + lines[i].trim());
            }
        }
        if (classes > 12 || classes < 2 || methods < 100) {
            complain("the file has " + classes + " classes and " + methods + " methods");
        }
    }

    /** Rule 11: calls go at most eight deep, if a method that calls itself counts once; rule 8: one does so. */
    private static void checkDepth() throws IOException {
        Map<String, Set<String>> calls = new TreeMap<>();
        List<String> files = new ArrayList<>(List.of(SaturnalGraph.class.getName()));
        for (Class<?> inner : SaturnalGraph.class.getDeclaredClasses()) {
            files.add(inner.getName());
        }
        for (String file : files) {
            readCalls(file, calls);
        }
        for (String method : calls.keySet()) {
            int depth = depthOf(method, calls, new ArrayList<>());
            if (depth > 8) {
                complain("calls go " + depth + " deep from " + method);
            }
        }
    }

    /** Lists the calls in each method of a class; those that lead out of the file are left out later. */
    private static void readCalls(String file, Map<String, Set<String>> calls) {
        StringWriter out = new StringWriter();
        PrintWriter writer = new PrintWriter(out);
        ToolProvider.findFirst("javap").orElseThrow().run(writer, writer, "-p", "-c", "-s",
                "-cp", System.getProperty("java.class.path"), file);
        Matcher m = Pattern.compile("([\\w$]+)\\([^)]*\\)[^;{\\n]*;\\n +descriptor: (\\S+)|// Method (\\S+)").matcher(out.toString());
        String method = "";
        while (m.find()) {
            if (m.group(3) == null) {
                boolean isNew = m.group(1).equals(file);
                method = file + "." + (isNew ? "\"<init>\"" : m.group(1)) + ":" + m.group(2);
                calls.put(method, new TreeSet<>());
            } else {
                String called = m.group(3);
                boolean isOwn = !called.substring(0, called.indexOf(':')).contains(".");
                calls.getOrDefault(method, new TreeSet<>()).add(isOwn ? file + "." + called : called);
            }
        }
    }

    private static int depthOf(String method, Map<String, Set<String>> calls, List<String> open) {
        int deepest = 0;
        open.add(method);
        for (String called : calls.get(method)) {
            boolean isOpen = open.contains(called);
            if (isOpen && !called.equals(method)) {
                complain("methods that call one another: " + open + " " + called);
            }
            if (!isOpen && calls.containsKey(called)) {
                deepest = Math.max(deepest, depthOf(called, calls, open));
            }
        }
        open.remove(open.size() - 1);
        return deepest + 1;
    }

    private static void checkFace(String document) {
        int from = document.indexOf("public final class SaturnalGraph {");
        String face = document.substring(from, document.indexOf("}\n", from));
        Set<String> due = new TreeSet<>();
        Matcher m = Pattern.compile("public (\\w+) (\\w+)\\(([^)]*)\\)(?: throws ([^;]*))?;").matcher(face);
        while (m.find()) {
            List<String> types = new ArrayList<>();
            for (String p : m.group(3).isEmpty() ? new String[0] : m.group(3).split(", ")) {
                types.add(p.split(" ")[0]);
            }
            due.add(m.group(1) + " " + m.group(2) + types + " " + (m.group(4) == null ? "" : m.group(4)));
        }
        Set<String> got = new TreeSet<>();
        Set<String> names = new TreeSet<>();
        for (Method method : SaturnalGraph.class.getDeclaredMethods()) {
            if (Modifier.isPublic(method.getModifiers())) {
                names.add(method.getName());
                List<String> types = new ArrayList<>();
                for (Class<?> p : method.getParameterTypes()) {
                    types.add(p.getSimpleName());
                }
                List<String> thrown = new ArrayList<>();
                for (Class<?> e : method.getExceptionTypes()) {
                    thrown.add(e.getSimpleName());
                }
                got.add(method.getReturnType().getSimpleName() + " " + method.getName() + types + " "
                        + String.join(", ", thrown));
            }
        }
        if (!due.equals(got) || due.size() != 47) {
            complain("the face is " + got + ", due is " + due);
        }
        checkMembers(names);
    }

    private static int constants() {
        int found = 0;
        for (Member field : SaturnalGraph.class.getDeclaredFields()) {
            found += Modifier.isStatic(field.getModifiers()) ? 1 : 0;
        }
        return found;
    }

    private static void checkMembers(Set<String> names) {
        if (SaturnalGraph.class.getDeclaredFields().length - constants() > 20) {
            complain("more than twenty fields beside the constants");
        }
        List<Member> members = new ArrayList<>(Arrays.asList(SaturnalGraph.class.getDeclaredMethods()));
        members.addAll(Arrays.asList(SaturnalGraph.class.getDeclaredFields()));
        for (Member member : members) {
            boolean isPublic = Modifier.isPublic(member.getModifiers());
            boolean isPrivate = Modifier.isPrivate(member.getModifiers());
            if (!member.isSynthetic() && !isPrivate && !(isPublic && names.contains(member.getName()))) {
                complain("neither private nor of the face: " + member);
            }
            if (isPrivate && member instanceof Method && names.contains(member.getName())) {
                complain("a private method with the name of a public one: " + member);
            }
        }
        for (Class<?> inner : SaturnalGraph.class.getDeclaredClasses()) {
            for (Method method : inner.getDeclaredMethods()) {
                if (names.contains(method.getName())) {
                    complain("the name of a public method: " + method);
                }
                if (method.getParameterCount() > 7) {
                    complain("more than seven parameters: " + method);
                }
            }
            if (inner.getDeclaredFields().length > 20) {
                complain("more than twenty fields: " + inner);
            }
        }
        Constructor<?>[] constructors = SaturnalGraph.class.getDeclaredConstructors();
        if (constructors.length != 1 || constructors[0].getParameterCount() != 0
                || !Modifier.isFinal(SaturnalGraph.class.getModifiers())) {
            complain("the class is not as the document has it");
        }
    }

    public static void main(String[] arguments) throws IOException {
        String text = Files.readString(Path.of("src/main/java/SaturnalGraph.java"));
        checkText(text);
        checkLengths(text);
        checkDepth();
        checkFace(Files.readString(Path.of("../shared/DOC.md")));
        System.out.println("language and face: " + wrong + " wrong");
        if (wrong != 0) {
            System.exit(1);
        }
    }
}
