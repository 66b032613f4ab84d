import java.io.IOException;
import java.lang.reflect.Method;
import java.lang.reflect.Modifier;
import java.net.URL;
import java.net.URLClassLoader;
import java.nio.file.Files;
import java.nio.file.Path;
import java.util.ArrayList;
import java.util.List;
import java.util.regex.Matcher;
import java.util.regex.Pattern;
import java.util.stream.Stream;
import javax.tools.ToolProvider;

/** README.md: its example is compiled and answers as its comments tell, and it leaves out no call and no test. */
public final class ReadmeTest {
    private static final Pattern TOLD = Pattern.compile("(?:int (\\w+) = )?(x\\.\\w+\\(.*\\)); +// (-?\\d+)(:.*)?");
    private static final Due due = new Due();

    public static void main(String[] args) throws IOException, ReflectiveOperationException {
        String page = Files.readString(Path.of("README.md"));
        example(page.substring(page.indexOf("```java\n") + 8, page.lastIndexOf("```")));
        for (Method method : TroubleCodes.class.getDeclaredMethods()) {
            if (Modifier.isPublic(method.getModifiers())) isTold(page, "\n| `" + method.getName() + "(");
        }
        for (String file : Path.of("src/test/java").toFile().list()) {
            if (file.endsWith("Test.java")) isTold(page, "\n| " + file.replace(".java", "") + " |");
        }
        due.finish();
    }

    private static void isTold(String page, String words) {
        due.is("README.md has" + words.replace('\n', ' '), page.contains(words) ? 1 : 0, 1);
    }

    private static void example(String text) throws IOException, ReflectiveOperationException {
        StringBuilder code = new StringBuilder("public class Example { public static void ask(java.util.List<Long> told) {\n");
        List<String> calls = new ArrayList<>();
        List<Long> want = new ArrayList<>();
        for (String line : text.split("\n")) {
            Matcher told = TOLD.matcher(line);
            boolean tells = told.matches();
            due.is("a line with a call tells its answer: " + line, tells ? 1 : 0, line.contains("x.") ? 1 : 0);
            if (!tells) {
                code.append(line).append('\n');
                continue;
            }
            String name = told.group(1) == null ? "answer" + calls.size() : told.group(1);
            code.append("int " + name + " = " + told.group(2) + "; told.add((long) " + name + ");\n");
            calls.add("README.md: " + told.group(2));
            want.add(Long.parseLong(told.group(3)));
        }
        List<Long> got = answers(code.append("} }\n").toString());
        due.is("calls of README.md", got.size(), calls.size());
        for (int i = 0; i < got.size(); i++) due.is(calls.get(i), got.get(i), want.get(i));
    }

    private static List<Long> answers(String code) throws IOException, ReflectiveOperationException {
        Path folder = Files.createTempDirectory("readme");
        try (URLClassLoader loader = new URLClassLoader(new URL[] {folder.toUri().toURL()})) {
            Path source = folder.resolve("Example.java");
            Files.writeString(source, code);
            String path = System.getProperty("java.class.path");
            int exit = ToolProvider.getSystemJavaCompiler().run(null, null, null, "-cp", path, source.toString());
            due.is("README.md's example compiles", exit, 0);
            List<Long> told = new ArrayList<>();
            if (exit == 0) loader.loadClass("Example").getMethod("ask", List.class).invoke(null, told);
            return told;
        } finally {
            try (Stream<Path> files = Files.list(folder)) {
                for (Path file : files.toList()) Files.delete(file);
            }
            Files.delete(folder);
        }
    }
}
