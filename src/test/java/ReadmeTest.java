import java.io.ByteArrayOutputStream;
import java.io.IOException;
import java.io.PrintStream;
import java.lang.reflect.Method;
import java.lang.reflect.Modifier;
import java.net.URL;
import java.net.URLClassLoader;
import java.nio.file.Files;
import java.nio.file.Path;
import java.util.ArrayList;
import java.util.List;
import java.util.regex.Matcher;
import java.util.regex.Pattern;
import javax.tools.JavaCompiler;
import javax.tools.ToolProvider;

/** What README.md says of the class: its example prints what stands behind each line, and no call is left out. */
public final class ReadmeTest {
    private static final Pattern EXAMPLE = Pattern.compile("```java\n(.*?)```", Pattern.DOTALL);
    private static final Pattern SAID = Pattern.compile("^ +say\\((.*)\\); // ([^:\\n]+)", Pattern.MULTILINE);

    public static void main(String[] args) throws Exception {
        String readme = Files.readString(Path.of("README.md"));
        Matcher example = EXAMPLE.matcher(readme);
        Due.is("README.md has an example", example.find(), true);
        checkExample(example.group(1));
        checkCalls(readme);
        Due.end("ReadmeTest");
    }

    private static void checkExample(String code) throws Exception {
        List<String> calls = new ArrayList<>();
        List<String> due = new ArrayList<>();
        Matcher said = SAID.matcher(code);
        while (said.find()) {
            calls.add(said.group(1));
            due.add(said.group(2).trim());
        }
        String[] printed = run(code).split("\n");
        Due.is("answers that the example prints", printed.length, due.size());
        for (int i = 0; i < Math.min(printed.length, due.size()); i++) {
            String call = calls.get(i) + " printed " + printed[i] + ", README.md says " + due.get(i);
            Due.is(call, printed[i].equals(due.get(i)), true);
        }
    }

    /** Compiles the example, runs it, and tells what it printed. */
    private static String run(String code) throws Exception {
        Path folder = Files.createTempDirectory("readme");
        Path source = folder.resolve("Example.java");
        try {
            Files.writeString(source, code);
            JavaCompiler compiler = ToolProvider.getSystemJavaCompiler();
            String path = System.getProperty("java.class.path");
            String[] words = {"-cp", path, "-d", folder.toString(), source.toString()};
            Due.is("javac of the example", compiler.run(null, null, null, words), 0);
            return printed(folder);
        } finally {
            Files.deleteIfExists(source);
            Files.deleteIfExists(folder.resolve("Example.class"));
            Files.delete(folder);
        }
    }

    private static String printed(Path folder) throws IOException, ReflectiveOperationException {
        PrintStream screen = System.out;
        ByteArrayOutputStream bytes = new ByteArrayOutputStream();
        try (URLClassLoader loader = new URLClassLoader(new URL[] {folder.toUri().toURL()})) {
            System.setOut(new PrintStream(bytes));
            loader.loadClass("Example").getMethod("main", String[].class).invoke(null, (Object) new String[0]);
        } finally {
            System.out.flush();
            System.setOut(screen);
        }
        return bytes.toString().replace("\r", "");
    }

    private static void checkCalls(String readme) {
        for (Method method : HomeRoll.class.getDeclaredMethods()) {
            if (Modifier.isPublic(method.getModifiers())) {
                String row = "(?s).*\n\\| `" + method.getName() + "\\(([^)]*)\\)` \\|.*";
                Matcher matcher = Pattern.compile(row).matcher(readme);
                boolean stands = matcher.matches();
                Due.is(method.getName() + " stands in the table of calls", stands, true);
                int names = !stands || matcher.group(1).isEmpty() ? 0 : matcher.group(1).split(", ").length;
                Due.is("parameters of " + method.getName() + " there", names, method.getParameterCount());
            }
        }
    }
}
