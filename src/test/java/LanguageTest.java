import java.io.IOException;
import java.lang.reflect.Constructor;
import java.lang.reflect.Member;
import java.lang.reflect.Method;
import java.lang.reflect.Modifier;
import java.nio.file.Files;
import java.nio.file.Path;
import java.util.ArrayList;
import java.util.Arrays;
import java.util.List;
import java.util.Set;
import java.util.TreeSet;
import java.util.regex.Matcher;
import java.util.regex.Pattern;

/** Some of what LANGUAGE.md rules out, and the face of DOC.md. */
public final class LanguageTest {
    private static final String[] FORBIDDEN = {
        "->", "::", "\\bcatch\\b", "\\bfinally\\b", "\\bsynchronized\\b", "\\bassert\\b", "\\bNaN\\b", "\\bSystem\\.(?!arraycopy)",
        "\\bMath\\.(?!min|max|abs|floorDiv|floorMod)", "\\bArrays\\.(?!fill|copyOf)", "\\bRandom\\b", "\\bThread\\b",
        "\\bhashCode\\b", "\\btoString\\b", "\\bequals\\b", "\\bpackage\\b", "\\bprotected\\b", "\\binterface\\b",
        "^import (?!java\\.util\\.(Arrays|NoSuchElementException);)"};
    private static int wrong = 0;

    private static void complain(String text) {
        wrong++;
        System.out.println(text);
    }

    private static void checkText(String text) {
        String code = text.replaceAll("(?s)/\\*.*?\\*/", "").replaceAll("//[^\n]*", "").replaceAll("\"[^\"\n]*\"", "\"\"");
        for (String f : FORBIDDEN) {
            Matcher m = Pattern.compile(f, Pattern.MULTILINE).matcher(code);
            if (m.find()) {
                complain("the class has: " + m.group());
            }
        }
        for (char c : text.toCharArray()) {
            if (c > 126 || c < 32 && c != '\n') {
                complain("the class has the sign " + (int) c);
                return;
            }
        }
    }

    private static void checkFace(String document) {
        int from = document.indexOf("public final class SaturnalGraph {");
        String face = document.substring(from, document.indexOf("}\n", from));
        Set<String> due = new TreeSet<>();
        Matcher m = Pattern.compile("public (\\w+) (\\w+)\\(([^)]*)\\)(?: throws ([^;]*))?;").matcher(face);
        while (m.find()) {
            List<String> types = new ArrayList<>();
            for (String p : m.group(3).isEmpty() ? new String[0] : m.group(3).split(", ")) {
                types.add(p.split(" ")[0]);
            }
            due.add(m.group(1) + " " + m.group(2) + types + " " + (m.group(4) == null ? "" : m.group(4)));
        }
        Set<String> got = new TreeSet<>();
        Set<String> names = new TreeSet<>();
        for (Method method : SaturnalGraph.class.getDeclaredMethods()) {
            if (Modifier.isPublic(method.getModifiers())) {
                names.add(method.getName());
                List<String> types = new ArrayList<>();
                for (Class<?> p : method.getParameterTypes()) {
                    types.add(p.getSimpleName());
                }
                List<String> thrown = new ArrayList<>();
                for (Class<?> e : method.getExceptionTypes()) {
                    thrown.add(e.getSimpleName());
                }
                got.add(method.getReturnType().getSimpleName() + " " + method.getName() + types + " "
                        + String.join(", ", thrown));
            }
        }
        if (!due.equals(got) || due.size() != 47) {
            complain("the face is " + got + ", due is " + due);
        }
        checkMembers(names);
    }

    private static void checkMembers(Set<String> names) {
        List<Member> members = new ArrayList<>(Arrays.asList(SaturnalGraph.class.getDeclaredMethods()));
        members.addAll(Arrays.asList(SaturnalGraph.class.getDeclaredFields()));
        for (Member member : members) {
            boolean isPublic = Modifier.isPublic(member.getModifiers());
            boolean isPrivate = Modifier.isPrivate(member.getModifiers());
            if (!member.isSynthetic() && !isPrivate && !(isPublic && names.contains(member.getName()))) {
                complain("neither private nor of the face: " + member);
            }
            if (isPrivate && member instanceof Method && names.contains(member.getName())) {
                complain("a private method with the name of a public one: " + member);
            }
        }
        for (Class<?> inner : SaturnalGraph.class.getDeclaredClasses()) {
            for (Method method : inner.getDeclaredMethods()) {
                if (names.contains(method.getName())) {
                    complain("the name of a public method: " + method);
                }
                if (method.getParameterCount() > 7) {
                    complain("more than seven parameters: " + method);
                }
            }
            if (inner.getDeclaredFields().length > 20) {
                complain("more than twenty fields: " + inner);
            }
        }
        Constructor<?>[] constructors = SaturnalGraph.class.getDeclaredConstructors();
        if (constructors.length != 1 || constructors[0].getParameterCount() != 0
                || !Modifier.isFinal(SaturnalGraph.class.getModifiers())) {
            complain("the class is not as the document has it");
        }
    }

    public static void main(String[] arguments) throws IOException {
        checkText(Files.readString(Path.of("src/main/java/SaturnalGraph.java")));
        checkFace(Files.readString(Path.of("../shared/DOC.md")));
        System.out.println("language and face: " + wrong + " wrong");
        if (wrong != 0) {
            System.exit(1);
        }
    }
}
