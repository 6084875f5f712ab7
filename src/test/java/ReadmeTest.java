import java.io.File;
import java.io.IOException;
import java.lang.reflect.Method;
import java.net.URL;
import java.net.URLClassLoader;
import java.nio.file.Files;
import java.nio.file.Path;
import java.util.List;
import java.util.regex.Matcher;
import java.util.regex.Pattern;
import javax.tools.JavaCompiler;
import javax.tools.StandardJavaFileManager;
import javax.tools.ToolProvider;

/** What README.md shows is so: its calls answer what stands behind them, and it names every method and every test. */
public final class ReadmeTest {
    private static final Pattern CALL = Pattern.compile("([xyz]\\.\\w+\\(.*\\)); +// (.*)");
    private static final int LEAST_CALLS = 30;

    public static void main(String[] args) throws IOException, ReflectiveOperationException {
        String page = Files.readString(Path.of("README.md"));
        Due due = new Due("ReadmeTest, names");
        for (Method one : Sourcewright.class.getMethods()) {
            boolean isOfFace = one.getDeclaringClass() == Sourcewright.class;
            due.check(!isOfFace || page.contains("`" + one.getName() + "`"), "no method " + one.getName());
        }
        for (String name : new File("src/test/java").list()) {
            due.check(!name.endsWith("Test.java") || page.contains("`" + name.replace(".java", "") + "`"), "no test " + name);
        }
        due.end();
        run(code(page));
    }

    /** The page's blocks of Java as one program, each call with its answer made a check. */
    private static String code(String page) {
        StringBuilder text = new StringBuilder("public final class Page {\npublic static void main(String[] args) {\n");
        text.append("Due due = new Due(\"ReadmeTest, calls\");\n");
        boolean isJava = false;
        int calls = 0;
        for (String line : page.split("\n")) {
            Matcher call = CALL.matcher(line);
            if (line.startsWith("```")) {
                isJava = line.equals("```java");
            } else if (isJava && call.matches()) {
                text.append(check(call.group(1), call.group(2)));
                calls++;
            } else if (isJava) {
                text.append(line).append('\n');
            }
        }
        text.append("due.check(").append(calls).append(" >= ").append(LEAST_CALLS).append(", \"too few calls\");\n");
        return text.append("due.end();\n}\n}\n").toString();
    }

    private static String check(String call, String answer) {
        if (answer.startsWith("throws ")) {
            return "due.fails(\"" + call + "\", java.util." + answer.substring(7) + ".class, () -> " + call + ");\n";
        }
        return "due.same(\"" + call + "\", " + call + ", " + answer + ");\n";
    }

    /** Compiled anew with all that it needs, so that one loader has them all; ends the test with 1 if a check fails. */
    private static void run(String code) throws IOException, ReflectiveOperationException {
        Path home = Files.createTempDirectory("readme");
        home.toFile().deleteOnExit();
        Path file = home.resolve("Page.java");
        Files.writeString(file, code);
        JavaCompiler compiler = ToolProvider.getSystemJavaCompiler();
        boolean isCompiled;
        try (StandardJavaFileManager manager = compiler.getStandardFileManager(null, null, null)) {
            isCompiled = compiler.getTask(null, manager, null, List.of("-proc:none", "-d", home.toString()), null,
                manager.getJavaFileObjects(file.toString(), "src/main/java/Sourcewright.java", "src/test/java/Due.java")).call();
        }
        for (File one : home.toFile().listFiles()) {
            one.deleteOnExit();
        }
        if (!isCompiled) {
            System.out.println("ReadmeTest: the page does not compile");
            System.exit(1);
        }
        try (URLClassLoader loader = new URLClassLoader(new URL[] {home.toUri().toURL()}, ClassLoader.getPlatformClassLoader())) {
            loader.loadClass("Page").getMethod("main", String[].class).invoke(null, (Object) new String[0]);
        }
    }
}
