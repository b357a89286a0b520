import java.lang.reflect.Constructor;
import java.lang.reflect.Field;
import java.lang.reflect.Method;
import java.lang.reflect.Modifier;
import java.nio.file.Files;
import java.nio.file.Path;
import java.util.Arrays;
import java.util.List;
import java.util.Set;
import java.util.TreeSet;
import java.util.regex.Matcher;
import java.util.regex.Pattern;

/** The face, and the rules of LANGUAGE.md that a program can look after. */
public final class LanguageTest {
    private static final Path SOURCE = Path.of("src/main/java/MarkBench.java");
    private static final List<String> FACE = List.of(
            "int feed(int,int,int,int,int)", "int end(int)", "int book()", "int line(int)", "int fault(int)",
            "boolean metre(int)", "int readings(int)", "int reading(int,int,int)", "int letter(int,int,int)",
            "int best()", "int choice(int)", "long ways(int)", "int sure(int,int)", "int text(int,int)",
            "int settle(int,int)", "boolean back(int)", "int ask(int)", "int entry(int,int)", "int about(int)");
    private static final List<String> BANNED = List.of("throw", "throws", "try", "catch", "finally", "synchronized",
            "assert", "->", "::", "protected", "volatile", "transient", "native", "Exact", "random", "System.out",
            "System.nanoTime", "hashCode", "Object", "var", "package");
    private final Check check = new Check();

    public static void main(String[] args) throws Exception {
        LanguageTest test = new LanguageTest();
        test.face();
        test.classes();
        test.words();
        test.methodLengths();
        test.check.end();
    }

    private static String signature(Method method) {
        StringBuilder text = new StringBuilder(method.getReturnType().getName()).append(' ').append(method.getName());
        text.append('(');
        for (Class<?> type : method.getParameterTypes()) {
            text.append(text.charAt(text.length() - 1) == '(' ? "" : ",").append(type.getName());
        }
        return text.append(')').toString();
    }

    private void face() {
        Class<?> face = MarkBench.class;
        check.due("public and final", Modifier.isPublic(face.getModifiers()) && Modifier.isFinal(face.getModifiers()), true);
        Set<String> found = new TreeSet<>();
        Set<String> names = new TreeSet<>();
        for (Method method : face.getDeclaredMethods()) {
            if (Modifier.isPublic(method.getModifiers())) {
                found.add(signature(method));
                names.add(method.getName());
            }
        }
        check.same("the public methods", found.toString(), new TreeSet<>(FACE).toString());
        for (Method method : face.getDeclaredMethods()) {
            boolean isPublic = Modifier.isPublic(method.getModifiers());
            boolean isPrivate = Modifier.isPrivate(method.getModifiers());
            check.due(method + " is public or private", isPublic || isPrivate, true);
            check.due(method + " bears no public name", isPrivate && names.contains(method.getName()), false);
        }
        Constructor<?>[] made = face.getDeclaredConstructors();
        check.due("constructors", made.length, 1);
        check.due("its parameters", made[0].getParameterCount(), 0);
        for (Field field : face.getDeclaredFields()) {
            boolean isNone = field.getName().equals("NONE");
            check.due(field + " is private", Modifier.isPrivate(field.getModifiers()), !isNone);
        }
        for (Class<?> inside : face.getDeclaredClasses()) {
            for (Method method : inside.getDeclaredMethods()) {
                check.due(method + " bears no public name", names.contains(method.getName()), false);
            }
        }
    }

    private void classes() {
        Class<?>[] inside = MarkBench.class.getDeclaredClasses();
        check.due("some twelve classes", inside.length < 12, true);
        for (Class<?> each : inside) {
            check.due(each + " is static", Modifier.isStatic(each.getModifiers()), true);
            check.due(each + " is not public", Modifier.isPublic(each.getModifiers()), false);
            checkFields(each);
            for (Method method : each.getDeclaredMethods()) {
                check.due(method + " takes seven at most", method.getParameterCount() <= 7, true);
            }
        }
        checkFields(MarkBench.class);
    }

    private void checkFields(Class<?> each) {
        long own = Arrays.stream(each.getDeclaredFields()).filter(f -> !Modifier.isStatic(f.getModifiers())).count();
        check.due(each + " has some twenty fields", own <= 20, true);
        for (Field field : each.getDeclaredFields()) {
            if (Modifier.isStatic(field.getModifiers())) {
                check.due(field + " is final", Modifier.isFinal(field.getModifiers()), true);
            }
        }
    }

    private static String code() throws Exception {
        String text = Files.readString(SOURCE);
        return text.replaceAll("(?s)/\\*.*?\\*/", "").replaceAll("//[^\n]*", "");
    }

    private void words() throws Exception {
        String code = code();
        for (String banned : BANNED) {
            boolean isWord = Character.isLetter(banned.charAt(0));
            String pattern = isWord && !banned.equals("Exact") ? "\\b" + Pattern.quote(banned) + "\\b" : Pattern.quote(banned);
            check.due("'" + banned + "' in the code", Pattern.compile(pattern).matcher(code).find(), false);
        }
        Matcher imports = Pattern.compile("import ([^;]+);").matcher(code);
        while (imports.find()) {
            check.due("import " + imports.group(1), List.of("java.util.Arrays", "java.util.ArrayList", "java.util.List")
                    .contains(imports.group(1)), true);
        }
        check.due("a text joined by +", Pattern.compile("\"\\s*\\+|\\+\\s*\"").matcher(code).find(), false);
    }

    private void methodLengths() throws Exception {
        String head = null;
        int length = 0;
        for (String row : code().split("\n")) {
            if (row.matches(" {4,8}[a-zA-Z].*\\) \\{")) {
                head = row.trim();
                length = 0;
            } else if (head != null && row.matches(" {4,8}\\}")) {
                check.due(head + " of " + length + " lines is short", length <= 60, true);
                head = null;
            }
            length++;
        }
    }
}
