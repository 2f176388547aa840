import java.lang.reflect.Method;
import java.lang.reflect.Modifier;
import java.net.URL;
import java.net.URLClassLoader;
import java.nio.file.Files;
import java.nio.file.Path;
import java.util.ArrayList;
import java.util.List;
import java.util.regex.Matcher;
import java.util.regex.Pattern;
import javax.tools.ToolProvider;

/** README.md: its example's calls give the answers that it tells, and its words are the document's. */
public final class ReadmeTest {
    private static final Path README = Path.of("README.md");
    private static final Path DOCUMENT = Path.of("..", "shared", "DOC.md");

    private static final Pattern EXAMPLE = Pattern.compile("```java\n(.*?)```", Pattern.DOTALL);
    /** A call, perhaps kept in a variable, and perhaps with its answer told. */
    private static final Pattern CALL = Pattern.compile(
            "(?:int (\\w+) = )?(x\\.(\\w+)\\([^;]*\\));(?: *// ([^:]*)(?::.*)?)?");
    private static final Pattern PROMISE = Pattern.compile("## Promise \\d+: [^\n]*\n\n`([^`]*)`: ([^\n]*)\n");
    private static final Pattern TERMS = Pattern.compile("## Terms\n\n(.*?)\n\n##", Pattern.DOTALL);
    private static final Pattern QUOTE = Pattern.compile("(?m)(?:^> .*\n)+");

    private static final Checks CHECKS = new Checks();

    public static void main(String[] args) throws Exception {
        String readme = Files.readString(README);
        String document = Files.readString(DOCUMENT);
        exampleIsRight(readme);
        quotesAreTheDocuments(quotes(readme), document);
        everyPromiseIsTold(readme, document);
        everyTermIsTold(quotes(readme), document);
        CHECKS.end();
    }

    private static void exampleIsRight(String readme) throws Exception {
        CHECKS.says("README.md's example");
        Matcher example = EXAMPLE.matcher(readme);
        CHECKS.due("there is one", example.find(), true);
        List<String> calls = new ArrayList<>();
        List<String> told = new ArrayList<>();
        String source = sourceOf(example.group(1), calls, told);
        CHECKS.due("there is no other", example.find(), false);
        everyCallIsInIt(calls);
        List<?> got = answersOf(source);
        CHECKS.due("the count of answers", got.size(), told.size());
        for (int i = 0; i < told.size(); i++) {
            CHECKS.dueText(calls.get(i), String.valueOf(got.get(i)), told.get(i));
        }
    }

    /** The example as a class whose method answers what its calls answered; void calls have no answer to tell. */
    private static String sourceOf(String example, List<String> calls, List<String> told) {
        StringBuilder source = new StringBuilder("public class ReadmeExample {\n");
        source.append("public static java.util.List<Object> answers() {\n");
        source.append("java.util.List<Object> answers = new java.util.ArrayList<>();\n");
        for (String line : example.split("\n")) {
            Matcher call = CALL.matcher(line);
            boolean answers = call.matches() && !call.group(3).equals("clear");
            CHECKS.due("its answer is told: " + line, answers, line.contains("x.") && !line.contains("x.clear"));
            if (!answers) {
                source.append(line).append('\n');
                continue;
            }
            calls.add(call.group(2));
            told.add(numberOf(String.valueOf(call.group(4)).strip()));
            String kept = call.group(1) == null ? "" : "int " + call.group(1) + " = " + call.group(2) + ";\n";
            source.append(kept).append("answers.add(");
            source.append(call.group(1) == null ? call.group(2) : call.group(1)).append(");\n");
        }
        return source.append("return answers;\n}\n}\n").toString();
    }

    private static String numberOf(String answer) {
        return answer.equals("NONE") ? String.valueOf(Checks.NONE) : answer;
    }

    private static void everyCallIsInIt(List<String> calls) {
        for (Method m : BranchLayout.class.getDeclaredMethods()) {
            if (Modifier.isPublic(m.getModifiers()) && m.getReturnType() != void.class) {
                boolean found = calls.stream().anyMatch(call -> call.startsWith("x." + m.getName() + "("));
                CHECKS.due("it has " + m.getName(), found, true);
            }
        }
    }

    private static List<?> answersOf(String source) throws Exception {
        Path folder = Files.createTempDirectory("readme");
        Path file = folder.resolve("ReadmeExample.java");
        Path classFile = folder.resolve("ReadmeExample.class");
        try {
            Files.writeString(file, source);
            int code = ToolProvider.getSystemJavaCompiler().run(null, null, null,
                    "-cp", System.getProperty("java.class.path"), "-d", folder.toString(), file.toString());
            CHECKS.due("compiling it", code, 0);
            if (code != 0) {
                return List.of();
            }
            try (URLClassLoader loader = new URLClassLoader(new URL[] {folder.toUri().toURL()})) {
                return (List<?>) loader.loadClass("ReadmeExample").getMethod("answers").invoke(null);
            }
        } finally {
            Files.deleteIfExists(classFile);
            Files.deleteIfExists(file);
            Files.deleteIfExists(folder);
        }
    }

    /** What stands behind '>' in README.md, each quote as one line. */
    private static List<String> quotes(String readme) {
        List<String> found = new ArrayList<>();
        Matcher quote = QUOTE.matcher(readme);
        while (quote.find()) {
            found.add(quote.group().replaceAll("(?m)^> ", "").strip().replace('\n', ' '));
        }
        return found;
    }

    private static void quotesAreTheDocuments(List<String> quotes, String document) {
        CHECKS.says("README.md in the document's words");
        for (String quote : quotes) {
            CHECKS.due(quote, document.contains(quote), true);
        }
    }

    private static void everyPromiseIsTold(String readme, String document) {
        CHECKS.says("README.md tells each call of the public face");
        Matcher promise = PROMISE.matcher(document);
        int count = 0;
        while (promise.find()) {
            count++;
            CHECKS.due(promise.group(1), toldOf(promise.group(1), readme).contains(promise.group(2)), true);
        }
        CHECKS.due("the document's promises", count, 11);
    }

    /** The quotes between a call's heading and the next. */
    private static List<String> toldOf(String call, String readme) {
        int from = readme.indexOf("#### `" + call + "`\n");
        if (from < 0) {
            return List.of();
        }
        int to = readme.indexOf("\n##", from);
        return quotes(readme.substring(from, to < 0 ? readme.length() : to));
    }

    private static void everyTermIsTold(List<String> quotes, String document) {
        CHECKS.says("README.md tells the document's terms");
        Matcher terms = TERMS.matcher(document);
        CHECKS.due("the document has terms", terms.find(), true);
        for (String paragraph : terms.group(1).split("\n\n")) {
            CHECKS.due(paragraph, quotes.contains(paragraph), true);
        }
    }
}
