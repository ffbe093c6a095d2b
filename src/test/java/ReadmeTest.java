import java.io.StringWriter;
import java.lang.reflect.Method;
import java.lang.reflect.Modifier;
import java.net.URI;
import java.net.URL;
import java.net.URLClassLoader;
import java.nio.file.Files;
import java.nio.file.Path;
import java.util.Comparator;
import java.util.List;
import java.util.function.BiConsumer;
import java.util.regex.Matcher;
import java.util.regex.Pattern;
import java.util.stream.Stream;
import javax.tools.JavaCompiler;
import javax.tools.JavaFileObject;
import javax.tools.SimpleJavaFileObject;
import javax.tools.ToolProvider;

/** What README.md shows as examples compiles as it stands, and is answered as it says. */
public final class ReadmeTest {
    private static final Pattern BLOCK = Pattern.compile("(?ms)^```java\n(.*?)^```$");
    /** A call with the answer that is due behind it: "x.of(1, 2);  // 4: its ROOM". */
    private static final Pattern CALL = Pattern.compile("(?:int (\\w+) = )?(.*);\\s*// (-?\\d+)(?::.*)?");

    private static int examples = 0;

    public static void main(String[] args) throws Exception {
        String readme = Files.readString(Path.of("README.md"));
        namesTheFace(readme);
        runExamples(program(readme));
        Due.is("README.md has examples with answers", examples >= 50 ? 1 : 0, 1);
        Due.end();
    }

    private static void namesTheFace(String readme) {
        for (Method m : MannersGaol.class.getDeclaredMethods()) {
            boolean isPublic = Modifier.isPublic(m.getModifiers());
            boolean isNamed = readme.contains("`" + m.getName() + "`") || readme.contains("x." + m.getName() + "(");
            Due.is("README.md names " + m.getName(), !isPublic || isNamed ? 1 : 0, 1);
        }
    }

    /** All examples, one behind the other, as one class; blocks of methods stand beside its main method. */
    private static String program(String readme) {
        StringBuilder methods = new StringBuilder();
        StringBuilder calls = new StringBuilder();
        Matcher block = BLOCK.matcher(readme);
        while (block.find()) {
            boolean isMethod = block.group(1).startsWith("static ");
            if (isMethod) {
                methods.append(block.group(1));
            } else {
                block.group(1).lines().forEach(line -> calls.append(asked(line)).append('\n'));
            }
        }
        return "public class Examples {\n" + methods
            + "public static void run(java.util.function.BiConsumer<String, long[]> due) {\n" + calls + "}\n}\n";
    }

    private static String asked(String line) {
        Matcher call = CALL.matcher(line);
        if (!call.matches()) {
            return line;
        }
        examples++;
        String name = call.group(1) == null ? "answer" + examples : call.group(1);
        return "long got" + examples + " = " + call.group(2) + ";\n"
            + "int " + name + " = (int) got" + examples + ";\n"
            + "due.accept(\"" + call.group(2).replace("\"", "\\\"") + "\", new long[] {got" + examples + ", "
            + call.group(3) + "});";
    }

    private static void runExamples(String program) throws Exception {
        Path out = Files.createTempDirectory("examples");
        try {
            JavaCompiler compiler = ToolProvider.getSystemJavaCompiler();
            StringWriter said = new StringWriter();
            JavaFileObject source = new SimpleJavaFileObject(URI.create("string:///Examples.java"), JavaFileObject.Kind.SOURCE) {
                @Override
                public CharSequence getCharContent(boolean ignoreErrors) {
                    return program;
                }
            };
            List<String> options = List.of("-d", out.toString(), "-cp", System.getProperty("java.class.path"));
            boolean compiles = compiler.getTask(said, null, null, options, null, List.of(source)).call();
            Due.is("the examples compile: " + said, compiles ? 1 : 0, 1);
            if (compiles) {
                ask(out);
            }
        } finally {
            remove(out);
        }
    }

    private static void ask(Path out) throws Exception {
        BiConsumer<String, long[]> due = (call, both) -> Due.is("README.md: " + call, both[0], both[1]);
        URL[] places = {out.toUri().toURL()};
        try (URLClassLoader loader = new URLClassLoader(places, ReadmeTest.class.getClassLoader())) {
            loader.loadClass("Examples").getMethod("run", BiConsumer.class).invoke(null, due);
        }
    }

    private static void remove(Path out) throws Exception {
        try (Stream<Path> all = Files.walk(out)) {
            for (Path one : all.sorted(Comparator.reverseOrder()).toList()) {
                Files.delete(one);
            }
        }
    }
}
