import java.io.File;
import java.io.IOException;
import java.lang.reflect.Method;
import java.net.URL;
import java.net.URLClassLoader;
import java.nio.file.Files;
import java.nio.file.Path;
import java.util.ArrayList;
import java.util.List;
import java.util.Set;
import java.util.TreeSet;
import java.util.regex.Matcher;
import java.util.regex.Pattern;
import javax.tools.ToolProvider;

/** The calls that README.md shows answer as it says, and it names each call of the face and each test. */
public final class ReadmeTest {
    private static final Pattern SHOWN = Pattern.compile("(x\\..*); // ([-.\\w]+)(: .*)?");

    public static void main(String[] args) throws IOException, ReflectiveOperationException {
        String readme = Files.readString(Path.of("README.md"));
        names(readme);
        Path out = Files.createTempDirectory("readme");
        Path source = out.resolve("Shown.java");
        Files.writeString(source, "public final class Shown {\n    public static void go() {\n" + body(readme)
                + "        Kit.finish(\"ReadmeTest, its calls\");\n    }\n}\n");
        int failed = ToolProvider.getSystemJavaCompiler().run(null, null, null, "-nowarn", "-d", out.toString(),
                "-cp", System.getProperty("java.class.path"), source.toString());
        Kit.due("README's calls can be compiled", 0, () -> failed);
        if (failed == 0) {
            go(out);
        }
        for (Path made : List.of(out.resolve("Shown.class"), source, out)) {
            Files.deleteIfExists(made);
        }
        Kit.finish("ReadmeTest");
    }

    private static void go(Path out) throws IOException, ReflectiveOperationException {
        List<URL> all = new ArrayList<>(List.of(out.toUri().toURL()));
        for (String part : System.getProperty("java.class.path").split(File.pathSeparator)) {
            all.add(Path.of(part).toUri().toURL());
        }
        // Classes without a package see one another only if one loader brings them, so that Kit is brought once more.
        try (URLClassLoader loader = new URLClassLoader(all.toArray(new URL[0]), ClassLoader.getPlatformClassLoader())) {
            loader.loadClass("Shown").getMethod("go").invoke(null);
        }
    }

    private static String body(String readme) {
        Matcher block = Pattern.compile("(?s)```java\n(.*?)```").matcher(readme);
        Kit.due("README shows calls", true, () -> block.find());
        StringBuilder body = new StringBuilder();
        for (String line : block.group(1).split("\n")) {
            Matcher shown = SHOWN.matcher(line);
            if (shown.matches()) {
                String call = shown.group(1);
                body.append("Kit.due(\"").append(call).append("\", \"").append(shown.group(2)).append("\", () -> ")
                        .append(call).append(");\n");
            } else {
                body.append(line).append('\n');
            }
        }
        return body.toString();
    }

    private static void names(String readme) {
        Set<String> missing = new TreeSet<>();
        for (Method method : BeastRules.class.getMethods()) {
            if (method.getDeclaringClass() == BeastRules.class && !readme.contains("`" + method.getName() + "`")) {
                missing.add(method.getName());
            }
        }
        Kit.due("calls that README does not name", "[]", () -> missing);
        Set<String> untold = new TreeSet<>();
        for (String file : Path.of("src/test/java").toFile().list()) {
            if (file.endsWith("Test.java") && !readme.contains("| " + file.replace(".java", "") + " |")) {
                untold.add(file);
            }
        }
        Kit.due("tests that README does not name", "[]", () -> untold);
    }
}
