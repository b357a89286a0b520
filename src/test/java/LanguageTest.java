import java.lang.reflect.Constructor;
import java.lang.reflect.Field;
import java.lang.reflect.Method;
import java.lang.reflect.Modifier;
import java.nio.file.Files;
import java.nio.file.Path;
import java.util.Arrays;
import java.util.List;
import java.util.Map;
import java.util.Set;
import java.util.TreeMap;
import java.util.TreeSet;
import java.util.regex.Matcher;
import java.util.regex.Pattern;

/** The face, and the rules of LANGUAGE.md that a program can look after. */
public final class LanguageTest {
    private static final Path SOURCE = Path.of("src/main/java/MarkBench.java");
    private static final List<String> FACE = List.of(
            "int feed(int,int,int,int,int)", "int end(int)", "int book()", "int line(int)", "int fault(int)",
            "boolean metre(int)", "int readings(int)", "int reading(int,int,int)", "int letter(int,int,int)",
            "int best()", "int choice(int)", "long ways(int)", "int sure(int,int)", "int text(int,int)",
            "int settle(int,int)", "boolean back(int)", "int ask(int)", "int entry(int,int)", "int about(int)");
    private static final List<String> BANNED = List.of("throw", "throws", "try", "catch", "finally", "synchronized",
            "assert", "->", "::", "protected", "volatile", "transient", "native", "Exact", "random", "System.out",
            "System.nanoTime", "hashCode", "Object", "var", "package", "null");
    private final Check check = new Check();

    public static void main(String[] args) throws Exception {
        LanguageTest test = new LanguageTest();
        test.face();
        test.classes();
        test.words();
        test.library();
        test.methodLengths();
        test.callDepth();
        test.check.end();
    }

    private static String signature(Method method) {
        StringBuilder text = new StringBuilder(method.getReturnType().getName()).append(' ').append(method.getName());
        text.append('(');
        for (Class<?> type : method.getParameterTypes()) {
            text.append(text.charAt(text.length() - 1) == '(' ? "" : ",").append(type.getName());
        }
        return text.append(')').toString();
    }

    private void face() {
        Class<?> face = MarkBench.class;
        check.due("public and final", Modifier.isPublic(face.getModifiers()) && Modifier.isFinal(face.getModifiers()), true);
        Set<String> found = new TreeSet<>();
        Set<String> names = new TreeSet<>();
        for (Method method : face.getDeclaredMethods()) {
            if (Modifier.isPublic(method.getModifiers())) {
                found.add(signature(method));
                names.add(method.getName());
            }
        }
        check.same("the public methods", found.toString(), new TreeSet<>(FACE).toString());
        for (Method method : face.getDeclaredMethods()) {
            boolean isPublic = Modifier.isPublic(method.getModifiers());
            boolean isPrivate = Modifier.isPrivate(method.getModifiers());
            check.due(method + " is public or private", isPublic || isPrivate, true);
            check.due(method + " bears no public name", isPrivate && names.contains(method.getName()), false);
        }
        Constructor<?>[] made = face.getDeclaredConstructors();
        check.due("constructors", made.length, 1);
        check.due("its parameters", made[0].getParameterCount(), 0);
        for (Field field : face.getDeclaredFields()) {
            boolean isNone = field.getName().equals("NONE");
            check.due(field + " is private", Modifier.isPrivate(field.getModifiers()), !isNone);
        }
        for (Class<?> inside : face.getDeclaredClasses()) {
            for (Method method : inside.getDeclaredMethods()) {
                check.due(method + " bears no public name", names.contains(method.getName()), false);
            }
        }
    }

    private void classes() {
        Class<?>[] inside = MarkBench.class.getDeclaredClasses();
        check.due("some twelve classes", inside.length < 12, true);
        for (Class<?> each : inside) {
            check.due(each + " is static", Modifier.isStatic(each.getModifiers()), true);
            check.due(each + " is not public", Modifier.isPublic(each.getModifiers()), false);
            checkFields(each);
            for (Method method : each.getDeclaredMethods()) {
                check.due(method + " takes seven at most", method.getParameterCount() <= 7, true);
            }
        }
        checkFields(MarkBench.class);
    }

    private void checkFields(Class<?> each) {
        long own = Arrays.stream(each.getDeclaredFields()).filter(f -> !Modifier.isStatic(f.getModifiers())).count();
        check.due(each + " has some twenty fields", own <= 20, true);
        for (Field field : each.getDeclaredFields()) {
            if (Modifier.isStatic(field.getModifiers())) {
                check.due(field + " is final", Modifier.isFinal(field.getModifiers()), true);
            }
        }
    }

    private static String code() throws Exception {
        String text = Files.readString(SOURCE);
        return text.replaceAll("(?s)/\\*.*?\\*/", "").replaceAll("//[^\n]*", "");
    }

    private void words() throws Exception {
        String code = code();
        for (String banned : BANNED) {
            boolean isWord = Character.isLetter(banned.charAt(0));
            String pattern = isWord && !banned.equals("Exact") ? "\\b" + Pattern.quote(banned) + "\\b" : Pattern.quote(banned);
            check.due("'" + banned + "' in the code", Pattern.compile(pattern).matcher(code).find(), false);
        }
        Matcher imports = Pattern.compile("import ([^;]+);").matcher(code);
        while (imports.find()) {
            check.due("import " + imports.group(1), List.of("java.util.Arrays", "java.util.ArrayList", "java.util.List")
                    .contains(imports.group(1)), true);
        }
        check.due("a text joined by +", Pattern.compile("\"\\s*\\+|\\+\\s*\"").matcher(code).find(), false);
    }

    /** Rule 4: of the library only these. */
    private void library() throws Exception {
        Set<String> allowed = Set.of("Math.min", "Math.max", "Arrays.fill", "System.arraycopy", "VOWELS.indexOf");
        Matcher calls = Pattern.compile("\\b([A-Z]\\w*\\.\\w+)\\(").matcher(code());
        Set<String> own = new TreeSet<>();
        for (Class<?> inside : MarkBench.class.getDeclaredClasses()) {
            for (Method method : inside.getDeclaredMethods()) {
                own.add(inside.getSimpleName() + "." + method.getName());
            }
        }
        while (calls.find()) {
            check.due("the call " + calls.group(1), allowed.contains(calls.group(1)) || own.contains(calls.group(1)), true);
        }
        Matcher made = Pattern.compile("\\bnew (\\w+)").matcher(code());
        while (made.find()) {
            String type = made.group(1);
            boolean isOwn = Arrays.stream(MarkBench.class.getDeclaredClasses()).anyMatch(c -> c.getSimpleName().equals(type));
            check.due("new " + type, isOwn || Set.of("int", "long", "char", "boolean").contains(type), true);
        }
    }

    /** Every method with its calls, by class and name; a call without a name ahead of it is one of its own class. */
    private static Map<String, Set<String>> callGraph() throws Exception {
        Map<String, Set<String>> calls = new TreeMap<>();
        Map<String, String> bodies = new TreeMap<>();
        String owner = "MarkBench";
        String method = null;
        for (String row : code().split("\n")) {
            Matcher type = Pattern.compile(" {4}private static final class (\\w+).*").matcher(row);
            Matcher head = Pattern.compile(" {4,8}(?:public |private |static )*(?:[\\w\\[\\]]+ )?(\\w+)\\([^()]*\\) \\{").matcher(row);
            if (type.matches()) {
                owner = type.group(1);
            } else if (head.matches() && !Set.of("if", "for", "while", "switch").contains(head.group(1))) {
                method = owner + "." + head.group(1);
                bodies.put(method, "");
            } else if (method != null) {
                bodies.merge(method, row + "\n", String::concat);
            }
        }
        for (String from : bodies.keySet()) {
            Matcher call = Pattern.compile("([\\w.\\]]*\\.)?(\\w+)\\(").matcher(bodies.get(from));
            Set<String> found = new TreeSet<>();
            while (call.find()) {
                String name = call.group(2);
                String own = from.substring(0, from.indexOf('.') + 1) + name;
                if (call.group(1) == null && bodies.containsKey(own)) {
                    found.add(own);
                } else if (call.group(1) != null) {
                    boolean isLibrary = Set.of("Math.", "Arrays.", "System.").contains(call.group(1));
                    bodies.keySet().stream().filter(b -> !isLibrary && b.endsWith("." + name)).forEach(found::add);
                    found.add("library");
                }
            }
            calls.put(from, found);
        }
        return calls;
    }

    private static int depth(Map<String, Set<String>> calls, String from, int above) {
        if (above > 20) {
            return above;
        }
        int deepest = 0;
        for (String called : calls.getOrDefault(from, Set.of())) {
            deepest = Math.max(deepest, depth(calls, called, above + 1));
        }
        return deepest + 1;
    }

    /** Rule 11: calls go at most eight deep, the library's own counted; none comes back to itself. */
    private void callDepth() throws Exception {
        Map<String, Set<String>> calls = callGraph();
        check.due("methods are found", calls.size() > 100, true);
        for (String from : calls.keySet()) {
            int deep = depth(calls, from, 0);
            check.due("calls of " + from + ", " + deep + " deep, stay within eight", deep <= 8, true);
        }
    }

    private void methodLengths() throws Exception {
        String head = null;
        int length = 0;
        for (String row : code().split("\n")) {
            if (row.matches(" {4,8}[a-zA-Z].*\\) \\{")) {
                head = row.trim();
                length = 0;
            } else if (head != null && row.matches(" {4,8}\\}")) {
                check.due(head + " of " + length + " lines is short", length <= 60, true);
                head = null;
            }
            length++;
        }
    }
}
