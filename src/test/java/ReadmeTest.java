import java.io.IOException;
import java.lang.reflect.Method;
import java.net.URL;
import java.net.URLClassLoader;
import java.nio.file.DirectoryStream;
import java.nio.file.Files;
import java.nio.file.Path;
import java.util.ArrayList;
import java.util.Comparator;
import java.util.List;
import java.util.Set;
import java.util.TreeSet;
import java.util.function.Supplier;
import java.util.regex.Matcher;
import java.util.regex.Pattern;
import java.util.stream.Stream;
import javax.tools.ToolProvider;

/** Compiles the examples of README.md and makes their calls: each must answer what README.md tells. */
public final class ReadmeTest {
    private static final Checks CHECKS = new Checks("ReadmeTest");
    private static final Pattern BLOCK = Pattern.compile("```java\n(.*?)```", Pattern.DOTALL);
    /** A call, and behind the arrow its answer, which a semicolon parts from what is said of it. */
    private static final Pattern CALL = Pattern.compile("(parser\\..*\\)); +// -> ([^;]+)(;.*)?");
    private static final Pattern OTHER_LINE = Pattern.compile("|IslandParser parser = new IslandParser\\(\\);");

    public static void main(String[] args) throws Exception {
        Path project = Path.of(args.length > 0 ? args[0] : ".");
        String readme = Files.readString(project.resolve("README.md"));
        examples(readme);
        namesOfMethods(readme);
        namesOfTests(readme, project.resolve("src/test/java"));
        CHECKS.end();
    }

    /** Called by the compiled examples; they have another loader, so they reach only what is public. */
    public static void answers(String call, String want, Supplier<Object> made) {
        CHECKS.same(call, Checks.outcome(made::get), want);
    }

    private static void examples(String readme) throws Exception {
        Path work = Files.createTempDirectory("readme");
        try {
            List<String> names = new ArrayList<>();
            for (Matcher block = BLOCK.matcher(readme); block.find();) {
                String name = "ReadmeExample" + names.size();
                names.add(name);
                Files.writeString(work.resolve(name + ".java"), source(name, block.group(1)));
            }
            CHECKS.part("the examples");
            CHECKS.same("there are some", names.isEmpty(), false);
            CHECKS.same("they are Java", compiled(work, names), 0);
            run(work, names);
        } finally {
            remove(work);
        }
    }

    private static String source(String name, String block) {
        StringBuilder lines = new StringBuilder("final class " + name + " {\n    static void run() {\n");
        for (String line : block.split("\n")) {
            Matcher call = CALL.matcher(line);
            if (call.matches()) {
                String told = call.group(1).replace("\\", "\\\\").replace("\"", "\\\"");
                lines.append("ReadmeTest.answers(\"" + told + "\", \"" + call.group(2).strip()
                        + "\", () -> " + call.group(1) + ");\n");
            } else {
                CHECKS.part("the examples");
                CHECKS.same("it tells an answer: " + line, OTHER_LINE.matcher(line).matches(), true);
                lines.append(line).append('\n');
            }
        }
        return lines.append("    }\n}\n").toString();
    }

    private static int compiled(Path work, List<String> names) {
        List<String> words = new ArrayList<>(List.of("-cp", System.getProperty("java.class.path"), "-d",
                work.toString()));
        for (String name : names) {
            words.add(work.resolve(name + ".java").toString());
        }
        return ToolProvider.getSystemJavaCompiler().run(null, null, null, words.toArray(new String[0]));
    }

    private static void run(Path work, List<String> names) throws Exception {
        try (URLClassLoader loader = new URLClassLoader(new URL[] {work.toUri().toURL()},
                ReadmeTest.class.getClassLoader())) {
            for (String name : names) {
                CHECKS.part(name);
                Method method = loader.loadClass(name).getDeclaredMethod("run");
                method.setAccessible(true);
                method.invoke(null);
            }
        }
    }

    private static void remove(Path work) throws IOException {
        try (Stream<Path> all = Files.walk(work)) {
            for (Path path : all.sorted(Comparator.reverseOrder()).toList()) {
                Files.delete(path);
            }
        }
    }

    private static void namesOfMethods(String readme) {
        CHECKS.part("every method is used in an example");
        for (Method method : IslandParser.class.getMethods()) {
            if (method.getDeclaringClass() == IslandParser.class) {
                CHECKS.same(method.getName(), readme.contains("\nparser." + method.getName() + "("), true);
            }
        }
    }

    private static void namesOfTests(String readme, Path tests) throws IOException {
        CHECKS.part("README.md names the tests that there are");
        Set<String> files = new TreeSet<>();
        try (DirectoryStream<Path> found = Files.newDirectoryStream(tests, "*Test.java")) {
            for (Path file : found) {
                files.add(file.getFileName().toString().replace(".java", ""));
            }
        }
        Set<String> named = new TreeSet<>();
        for (Matcher name = Pattern.compile("`(\\w+Test)`").matcher(readme); name.find();) {
            named.add(name.group(1));
        }
        CHECKS.same("they", named, files);
    }
}
