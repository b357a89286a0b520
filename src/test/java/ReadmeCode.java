import java.lang.reflect.Method;
import java.lang.reflect.Modifier;
import java.nio.file.Files;
import java.nio.file.Path;
import java.util.Set;
import java.util.TreeSet;
import java.util.regex.Matcher;
import java.util.regex.Pattern;

/** Writes a program that does what README.md shows and compares each answer with the one that README.md names. */
public final class ReadmeCode {
    private static final Pattern BLOCK = Pattern.compile("```java\n(.*?)```", Pattern.DOTALL);
    /** A call, texts in it counted whole, and behind // what it answers: a number or its like, then words or none. */
    private static final Pattern ANSWER = Pattern.compile(
            "([^;/\"]*(?:\"[^\"]*\"[^;/\"]*)*); // (-?\\d+|NONE|true|false)(?::[^\n]*)?\n");

    public static void main(String[] args) throws Exception {
        StringBuilder methods = new StringBuilder();
        StringBuilder calls = new StringBuilder();
        Matcher block = BLOCK.matcher(Files.readString(Path.of("README.md")));
        while (block.find()) {
            (block.group(1).startsWith("static ") ? methods : calls).append(block.group(1));
        }
        require(notAnswered(calls).isEmpty(), "README.md shows no answer of " + notAnswered(calls));
        require(ANSWER.matcher(calls).results().count() == calls.toString().split("// ", -1).length - 1,
                "README.md has a // without an answer that can be compared");
        Files.writeString(Path.of(args[0]), program(methods.toString(), calls.toString()));
    }

    private static void require(boolean holds, String otherwise) {
        if (!holds) {
            System.out.println(otherwise);
            System.exit(1);
        }
    }

    private static Set<String> notAnswered(CharSequence calls) {
        Set<String> names = new TreeSet<>();
        for (Method method : MarkBench.class.getDeclaredMethods()) {
            if (Modifier.isPublic(method.getModifiers())) {
                names.add(method.getName());
            }
        }
        Matcher answer = ANSWER.matcher(calls);
        while (answer.find()) {
            names.removeIf(name -> answer.group(1).contains("bench." + name + "("));
        }
        return names;
    }

    private static String program(String methods, String calls) {
        StringBuilder text = new StringBuilder("public final class ReadmeRun {\n");
        text.append("static final int NONE = MarkBench.NONE;\nstatic final Check CHECK = new Check();\n").append(methods);
        text.append("public static void main(String[] args) {\n");
        Matcher answer = ANSWER.matcher(calls);
        while (answer.find()) {
            String call = answer.group(1).strip();
            String named = call.replace("\\", "\\\\").replace("\"", "\\\"").replaceAll("\\s+", " ");
            String row = "\nCHECK.due(\"" + named + "\", " + call + ", " + answer.group(2) + ");\n";
            answer.appendReplacement(text, Matcher.quoteReplacement(row));
        }
        answer.appendTail(text);
        return text.append("CHECK.end();\n}\n}\n").toString();
    }
}
