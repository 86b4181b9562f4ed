import java.io.IOException;
import java.lang.reflect.InvocationTargetException;
import java.net.URL;
import java.net.URLClassLoader;
import java.nio.file.Files;
import java.nio.file.Path;
import java.util.ArrayList;
import java.util.List;
import java.util.regex.Matcher;
import java.util.regex.Pattern;
import javax.tools.ToolProvider;

/** README.md: each example answers what stands behind it, and each call of the document's face is named. */
public final class ReadmeTest {
    private static final Path PAGE = Path.of("README.md"), DOCUMENT = Path.of("../shared/DOC.md");
    private static final Path FOLDER = Path.of("build/readme");
    private static final Pattern EXAMPLE = Pattern.compile("(?s)```java\n(.*?)```");
    private static final Pattern ANSWER = Pattern.compile("(bus\\.\\w+\\(.*\\)); *// (-?\\d+)\\b.*");
    private static final Pattern CALL = Pattern.compile("public (?:int|long) (\\w+)\\((.*?)\\);");
    private static int checks = 0;
    private static int wrong = 0;

    private static void must(boolean holds, String otherwise) {
        checks++;
        if (!holds) {
            wrong++;
            System.out.println(otherwise);
        }
    }

    public static void main(String[] args) throws Exception {
        String page = Files.readString(PAGE);
        examples(page);
        calls(page, Files.readString(DOCUMENT));
        System.out.println(checks + " checks, " + wrong + " wrong");
        if (wrong != 0) {
            System.exit(1);
        }
    }

    private static void examples(String page) throws Exception {
        Files.createDirectories(FOLDER);
        Matcher m = EXAMPLE.matcher(page);
        int many = 0;
        while (m.find()) {
            many++;
            example("Example" + many, m.group(1));
        }
        must(many > 0, "the page has no example");
    }

    /** As a class whose method asks each call, and puts the answers into a list. */
    private static void example(String name, String code) throws Exception {
        StringBuilder body = new StringBuilder();
        List<String> asked = new ArrayList<>();
        List<Long> due = new ArrayList<>();
        for (String line : code.split("\n")) {
            Matcher m = ANSWER.matcher(line);
            if (m.matches()) {
                body.append("answers.add((long) ").append(m.group(1)).append(");\n");
                asked.add(m.group(1));
                due.add(Long.parseLong(m.group(2)));
            } else {
                must(!line.startsWith("bus."), "no answer stands behind " + line);
                body.append(line).append('\n');
            }
        }
        List<?> answers = answersOf(name, body.toString());
        must(answers.size() == due.size() && !due.isEmpty(), name + " gave " + answers.size() + " answers");
        for (int i = 0; i < answers.size() && i < due.size(); i++) {
            must(due.get(i).equals(answers.get(i)), name + ": " + asked.get(i) + " answered " + answers.get(i)
                + ", README.md says " + due.get(i));
        }
    }

    private static List<?> answersOf(String name, String body) throws Exception {
        Path file = FOLDER.resolve(name + ".java");
        Files.writeString(file, "public final class " + name + " {\npublic static java.util.List<Long> ask() {\n"
            + "java.util.List<Long> answers = new java.util.ArrayList<>();\n" + body + "return answers;\n}\n}\n");
        int code = ToolProvider.getSystemJavaCompiler().run(null, null, null, "-cp",
            System.getProperty("java.class.path"), "-d", FOLDER.toString(), file.toString());
        must(code == 0, name + " does not compile");
        if (code != 0) {
            return List.of();
        }
        try (URLClassLoader loader = new URLClassLoader(new URL[] {FOLDER.toUri().toURL()})) {
            return (List<?>) loader.loadClass(name).getMethod("ask").invoke(null);
        } catch (InvocationTargetException e) {
            must(false, name + " threw " + e.getCause());
            return List.of();
        }
    }

    private static void calls(String page, String document) throws IOException {
        Matcher m = CALL.matcher(document);
        int many = 0;
        while (m.find()) {
            many++;
            String call = m.group(1) + "(" + m.group(2).replace("int ", "") + ")";
            must(page.contains("| `" + call + "`"), "README.md does not name " + call);
        }
        must(many == 27, "the document has " + many + " calls");
        must(page.contains(".ci/run"), "README.md does not tell how to run the tests");
        try (var tests = Files.list(Path.of("src/test/java"))) {
            tests.forEach(t -> must(page.contains("`" + t.getFileName().toString().replace(".java", "") + "`"),
                "README.md does not name the test " + t.getFileName()));
        }
    }
}
