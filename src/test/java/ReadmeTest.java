import java.io.IOException;
import java.lang.reflect.Method;
import java.lang.reflect.Modifier;
import java.net.URL;
import java.net.URLClassLoader;
import java.nio.file.Files;
import java.nio.file.Path;
import java.util.regex.Matcher;
import java.util.regex.Pattern;
import javax.tools.JavaCompiler;
import javax.tools.ToolProvider;

/** README.md: its example is compiled and run, and each call there answers as the words behind it say. */
public final class ReadmeTest {
    private static final Due DUE = new Due();
    /** A call that stands alone in its line, and the answer that is said behind it. */
    private static final Pattern ANSWERED = Pattern.compile("(?m)^( *)(barges\\.(\\w+)\\(.*\\)); +// (-?\\d+)(:.*)?$");

    public static void main(String[] args) throws Exception {
        String readme = Files.readString(Path.of("README.md"));
        everyCallIsTold(readme);
        exampleAnswers(readme);
        DUE.end();
    }

    /** Called by the example, that is compiled with this in place of its calls. */
    public static void is(String call, long got, long want) {
        DUE.is("README.md: " + call, got, want);
    }

    private static void everyCallIsTold(String readme) {
        String example = exampleOf(readme);
        for (Method method : KiteBarges.class.getDeclaredMethods()) {
            if (Modifier.isPublic(method.getModifiers())) {
                DUE.holds("README.md tells of " + method.getName(), readme.contains("`" + method.getName() + "("));
                DUE.holds("its example uses " + method.getName(), example.contains("barges." + method.getName() + "("));
            }
        }
    }

    private static String exampleOf(String readme) {
        int from = readme.indexOf("```java\n");
        int to = readme.indexOf("\n```", from + 1);
        DUE.holds("README.md has an example", from >= 0 && to > from);
        return from >= 0 && to > from ? readme.substring(from + 8, to) : "";
    }

    private static void exampleAnswers(String readme) throws Exception {
        String example = exampleOf(readme);
        Matcher lines = ANSWERED.matcher(example);
        int said = (int) lines.results().count();
        DUE.holds("its example says " + said + " answers", said >= 40);
        String source = ANSWERED.matcher(example).replaceAll(line -> Matcher.quoteReplacement(line.group(1) + "ReadmeTest.is(\""
                + line.group(2).replace("\"", "\\\"") + "\", " + line.group(2) + ", " + line.group(4) + "L);"));
        int asked = DUE.asked();
        run(example, false);
        run(source, true);
        DUE.is("all the answers that are said were asked for", DUE.asked() - asked, said + 2);
    }

    /** Compiles a class Example by itself, and runs it if told so. */
    private static void run(String source, boolean running) throws Exception {
        Path folder = Files.createTempDirectory("readme");
        try {
            Path file = Files.writeString(folder.resolve("Example.java"), source);
            JavaCompiler compiler = ToolProvider.getSystemJavaCompiler();
            int code = compiler.run(null, null, null, "-cp", System.getProperty("java.class.path"), "-d", folder.toString(),
                    file.toString());
            DUE.is("README.md: its example compiles", code, 0);
            if (running && code == 0) {
                try (URLClassLoader loader = new URLClassLoader(new URL[] {folder.toUri().toURL()})) {
                    loader.loadClass("Example").getMethod("main", String[].class).invoke(null, (Object) new String[0]);
                }
            }
        } finally {
            delete(folder);
        }
    }

    private static void delete(Path folder) throws IOException {
        try (var files = Files.list(folder)) {
            for (Path file : files.toList()) {
                Files.delete(file);
            }
        }
        Files.delete(folder);
    }
}
