import java.io.IOException;
import java.lang.reflect.Method;
import java.lang.reflect.Modifier;
import java.net.URL;
import java.net.URLClassLoader;
import java.nio.file.Files;
import java.nio.file.Path;
import java.util.ArrayList;
import java.util.Comparator;
import java.util.List;
import java.util.regex.Matcher;
import java.util.regex.Pattern;
import java.util.stream.Stream;
import javax.tools.JavaCompiler;
import javax.tools.ToolProvider;

/** What README.md shows of the class's use is compiled and run as it stands there, and held against its answers. */
public final class ReadmeTest {
    private static final String NEW_OBJECT = "AbendRows rows = new AbendRows();";
    private static final Pattern BLOCK = Pattern.compile("^```java\\n(.*?)^```$", Pattern.DOTALL | Pattern.MULTILINE);
    private static final Pattern ROW =
        Pattern.compile("(?:int (?<name>\\w+) = )?(?<call>rows\\.(?<method>\\w+)\\(.*\\));\\s*// (?<answer>-?\\d+)(?:: .+)?");

    public static void main(String[] args) throws IOException, ReflectiveOperationException {
        Due due = new Due();
        List<Example> examples = examplesOf(due, Files.readString(Path.of("README.md")));
        due.holds("README.md shows examples", !examples.isEmpty());
        everyCallIsShown(due, examples);
        Path dir = Files.createTempDirectory("readme");
        try {
            run(due, examples, dir);
        } finally {
            remove(dir);
        }
        due.end();
    }

    private static List<Example> examplesOf(Due due, String readme) {
        List<Example> examples = new ArrayList<>();
        Matcher block = BLOCK.matcher(readme);
        while (block.find()) {
            examples.add(new Example(due, "Example" + examples.size(), block.group(1)));
        }
        return examples;
    }

    private static void everyCallIsShown(Due due, List<Example> examples) {
        for (Method method : AbendRows.class.getDeclaredMethods()) {
            if (Modifier.isPublic(method.getModifiers())) {
                boolean shown = examples.stream().anyMatch(e -> e.methods.contains(method.getName()));
                due.holds("README.md shows " + method.getName(), shown);
            }
        }
    }

    private static void run(Due due, List<Example> examples, Path dir) throws IOException, ReflectiveOperationException {
        JavaCompiler compiler = ToolProvider.getSystemJavaCompiler();
        due.holds("there is a compiler", compiler != null);
        if (compiler == null) {
            return;
        }
        for (Example each : examples) {
            Path file = Files.writeString(dir.resolve(each.name + ".java"), each.source());
            int code = compiler.run(null, System.out, System.out,
                "-cp", System.getProperty("java.class.path"), "-d", dir.toString(), file.toString());
            due.is("the compiler's code for " + each.name, code, 0);
            if (code == 0) {
                each.hold(due, answersOf(each, dir));
            }
        }
    }

    private static long[] answersOf(Example example, Path dir) throws IOException, ReflectiveOperationException {
        try (URLClassLoader loader = new URLClassLoader(new URL[] {dir.toUri().toURL()}, ReadmeTest.class.getClassLoader())) {
            return (long[]) loader.loadClass(example.name).getMethod("answers").invoke(null);
        }
    }

    private static void remove(Path dir) throws IOException {
        List<Path> all;
        try (Stream<Path> walk = Files.walk(dir)) {
            all = walk.sorted(Comparator.reverseOrder()).toList();
        }
        for (Path each : all) {
            Files.delete(each);
        }
    }

    /** One block of README.md: the rows behind its first, each a call with the answer that it is said to have. */
    private static final class Example {
        final String name;
        final List<String> calls = new ArrayList<>();
        final List<String> methods = new ArrayList<>();
        final List<Long> wanted = new ArrayList<>();
        private final StringBuilder body = new StringBuilder();

        Example(Due due, String name, String block) {
            this.name = name;
            String[] rows = block.split("\n");
            due.holds(name + " begins with a new object", rows[0].equals(NEW_OBJECT));
            body.append(rows[0]).append('\n');
            for (int k = 1; k < rows.length; k++) {
                Matcher row = ROW.matcher(rows[k]);
                boolean understood = row.matches();
                due.holds("a call with its answer: " + rows[k], understood);
                if (understood) {
                    add(row);
                }
            }
        }

        private void add(Matcher row) {
            String value = row.group("call");
            if (row.group("name") != null) {
                body.append(row.group(), 0, row.end("call")).append(";\n");
                value = row.group("name");
            }
            body.append("got[").append(calls.size()).append("] = ").append(value).append(";\n");
            calls.add(row.group("call"));
            methods.add(row.group("method"));
            wanted.add(Long.valueOf(row.group("answer")));
        }

        String source() {
            return "public final class " + name + " {\npublic static long[] answers() {\nlong[] got = new long["
                + calls.size() + "];\n" + body + "return got;\n}\n}\n";
        }

        void hold(Due due, long[] got) {
            due.says("README.md, " + name);
            for (int k = 0; k < got.length; k++) {
                due.is(calls.get(k), got[k], wanted.get(k));
            }
        }
    }
}
