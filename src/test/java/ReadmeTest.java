import java.io.IOException;
import java.net.URL;
import java.net.URLClassLoader;
import java.nio.file.Files;
import java.nio.file.Path;
import java.util.ArrayList;
import java.util.List;
import java.util.Set;
import java.util.TreeSet;
import java.util.function.Supplier;
import java.util.regex.Matcher;
import java.util.regex.Pattern;
import java.util.stream.Stream;
import javax.tools.ToolProvider;

/** What README.md says is so: its example answers what stands behind the calls, and its names are the project's. */
public final class ReadmeTest {
    private static final Path README = Path.of("README.md");
    private static final Path TESTS = Path.of("src/test/java");
    private static final Pattern ASKED = Pattern.compile("(w\\.(\\w+)\\(.*\\)); +// (\\w+)(:? .*)?");
    private static final int FACE_METHODS = 17;
    private static int wrong = 0;

    public static void main(String[] args) throws Exception {
        String readme = Files.readString(README);
        example(block(readme, "java"));
        names(readme);
        settings(readme);
        System.out.println(wrong == 0 ? "the README is as it says" : wrong + " things in the README are not so");
        if (wrong != 0) {
            System.exit(1);
        }
    }

    private static void need(boolean so, String what) {
        if (!so) {
            wrong++;
            System.out.println(what);
        }
    }

    private static String block(String text, String language) {
        Matcher block = Pattern.compile("```" + language + "\n(.*?)```", Pattern.DOTALL).matcher(text);
        need(block.find(), "the README has no block of " + language);
        return block.group(1);
    }

    /** Called by the example once it is compiled. */
    public static void ask(String call, String due, Supplier<Object> answer) {
        String got;
        try {
            got = String.valueOf(answer.get());
        } catch (RuntimeException e) {
            got = e.getClass().getSimpleName();
        }
        need(got.equals(due), "README: " + call + " answers " + got + ", not " + due);
    }

    private static void example(String lines) throws Exception {
        StringBuilder body = new StringBuilder();
        Set<String> methods = new TreeSet<>();
        for (String line : lines.split("\n")) {
            Matcher asked = ASKED.matcher(line);
            if (asked.matches()) {
                methods.add(asked.group(2));
                body.append("ReadmeTest.ask(\"").append(asked.group(2)).append(" in: ")
                        .append(asked.group(1).replace("\\", "\\\\").replace("\"", "\\\"")).append("\", \"")
                        .append(asked.group(3)).append("\", () -> ").append(asked.group(1)).append(");\n");
            } else {
                need(line.equals("StepWorkbench w = new StepWorkbench();"), "README: no answer in " + line);
                body.append(line).append("\n");
            }
        }
        need(methods.size() == FACE_METHODS, "README: the example has but " + methods);
        run("public final class ReadmeExample { public static void run() {\n" + body + "} }\n");
    }

    private static void run(String source) throws Exception {
        Path out = Files.createTempDirectory("readme");
        Path file = out.resolve("ReadmeExample.java");
        Files.writeString(file, source);
        int failed = ToolProvider.getSystemJavaCompiler().run(null, null, null, "-d", out.toString(), "-classpath",
                System.getProperty("java.class.path"), file.toString());
        need(failed == 0, "README: the example does not compile");
        if (failed == 0) {
            try (URLClassLoader loader = new URLClassLoader(new URL[] {out.toUri().toURL()})) {
                loader.loadClass("ReadmeExample").getMethod("run").invoke(null);
            }
        }
        try (Stream<Path> made = Files.list(out)) {
            for (Path path : made.toList()) {
                Files.delete(path);
            }
        }
        Files.delete(out);
    }

    /** Each test, each class inside the program and each method of the face is told of, and no other test is. */
    private static void names(String readme) throws IOException {
        Set<String> tests = new TreeSet<>();
        try (Stream<Path> files = Files.list(TESTS)) {
            files.map(f -> f.getFileName().toString().replace(".java", "")).filter(f -> f.endsWith("Test"))
                    .forEach(tests::add);
        }
        Set<String> told = new TreeSet<>();
        Matcher quoted = Pattern.compile("`(\\w+Test)`").matcher(readme);
        while (quoted.find()) {
            told.add(quoted.group(1));
        }
        need(told.equals(tests), "the README tells of " + told + ", there are " + tests);
        List<String> due = new ArrayList<>();
        for (Class<?> c : StepWorkbench.class.getDeclaredClasses()) {
            due.add(c.getSimpleName());
        }
        Stream.of(StepWorkbench.class.getMethods()).filter(m -> m.getDeclaringClass() == StepWorkbench.class)
                .forEach(m -> due.add(m.getName()));
        for (String name : due) {
            need(readme.contains("`" + name + "`"), "the README does not tell of " + name);
        }
        need(Files.isExecutable(Path.of(".ci/run")), ".ci/run cannot be run");
    }

    private static void settings(String readme) throws IOException {
        Matcher setting = Pattern.compile("-D(\\w+)=").matcher(readme);
        while (setting.find()) {
            boolean found = false;
            for (String test : new String[] {"ModelTest", "ShortLinesTest"}) {
                found |= Files.readString(TESTS.resolve(test + ".java")).contains("(\"" + setting.group(1) + "\"");
            }
            need(found, "no test looks at " + setting.group(1));
        }
    }
}
