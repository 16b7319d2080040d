import java.io.IOException;
import java.io.StringWriter;
import java.lang.reflect.Method;
import java.lang.reflect.Modifier;
import java.net.URI;
import java.net.URL;
import java.net.URLClassLoader;
import java.nio.file.Files;
import java.nio.file.Path;
import java.util.ArrayList;
import java.util.Comparator;
import java.util.List;
import java.util.regex.Matcher;
import java.util.regex.Pattern;
import java.util.stream.Stream;
import javax.tools.JavaCompiler;
import javax.tools.JavaFileObject;
import javax.tools.SimpleJavaFileObject;
import javax.tools.ToolProvider;

/**
 * "README.md says how to use the class and how to run its tests": its example is run as it stands
 * there, and what it must tell is looked for. It is run from the project's own directory.
 */
public final class ReadmeTest {
    private static final Check CHECK = new Check("Readme");
    /** A call in the example and the answer that its remark begins with. */
    private static final Pattern ANSWERED =
            Pattern.compile("(?:int (\\w+) = )?(x\\..*\\));\\s+// (true|false|-?\\d+)(?::.*)?");

    public static void main(String[] args) throws Exception {
        String readme = Files.readString(Path.of("README.md"));
        example(readme);
        everyCall(readme);
        uses(readme);
        tests(readme);
        CHECK.end();
    }

    /** The example: each answer is the one that its remark tells. */
    private static void example(String readme) throws Exception {
        List<String> calls = new ArrayList<>();
        List<String> due = new ArrayList<>();
        StringBuilder body = new StringBuilder();
        for (String line : linesOfExample(readme)) {
            Matcher m = ANSWERED.matcher(line.strip());
            if (!m.matches()) {
                body.append(line).append('\n');
                continue;
            }
            calls.add(m.group(2));
            due.add(m.group(3));
            String name = m.group(1);
            body.append(name == null ? "" : "int " + name + " = " + m.group(2) + ";\n");
            body.append("got.add(String.valueOf(").append(name == null ? m.group(2) : name);
            body.append("));\n");
        }
        List<?> got = run(body.toString());
        CHECK.yes("most of the face is in the example", calls.size() >= 15);
        CHECK.is("answers of the example", got.size(), calls.size());
        for (int i = 0; i < calls.size() && i < got.size(); i++) {
            CHECK.is("the example's " + calls.get(i), String.valueOf(got.get(i)), due.get(i));
        }
    }

    private static List<String> linesOfExample(String readme) {
        int from = readme.indexOf("```java\n");
        int to = readme.indexOf("```\n", from + 1);
        CHECK.yes("there is an example", from >= 0 && to > from);
        return from < 0 || to < from ? List.of() : readme.substring(from + 8, to).lines().toList();
    }

    private static List<?> run(String body) throws Exception {
        String source = "public final class Example {\n"
                + "public static java.util.List<String> answers() {\n"
                + "java.util.List<String> got = new java.util.ArrayList<>();\n" + body
                + "return got;\n}\n}\n";
        Path made = Files.createTempDirectory("readme");
        try {
            if (!compile(source, made)) {
                return List.of();
            }
            URL[] where = {made.toUri().toURL()};
            try (URLClassLoader loader = new URLClassLoader(where)) {
                return (List<?>) loader.loadClass("Example").getMethod("answers").invoke(null);
            }
        } finally {
            delete(made);
        }
    }

    private static boolean compile(String source, Path into) {
        JavaCompiler compiler = ToolProvider.getSystemJavaCompiler();
        JavaFileObject file = new SimpleJavaFileObject(
                URI.create("string:///Example.java"), JavaFileObject.Kind.SOURCE) {
            @Override
            public CharSequence getCharContent(boolean ignoreEncodingErrors) {
                return source;
            }
        };
        List<String> options = List.of("-d", into.toString(),
                "-cp", System.getProperty("java.class.path"));
        StringWriter said = new StringWriter();
        boolean compiled =
                compiler.getTask(said, null, null, options, null, List.of(file)).call();
        CHECK.is("what the compiler says of the example", said.toString(), "");
        return compiled;
    }

    private static void delete(Path made) throws IOException {
        try (Stream<Path> paths = Files.walk(made)) {
            for (Path path : paths.sorted(Comparator.reverseOrder()).toList()) {
                Files.delete(path);
            }
        }
    }

    /** "what each kind of call asks and answers": a row for each, with so many arguments. */
    private static void everyCall(String readme) {
        for (Method m : CellTests.class.getDeclaredMethods()) {
            if (Modifier.isPublic(m.getModifiers())) {
                int arguments = m.getParameterCount();
                String inside = arguments == 0 ? "" : "\\w+" + ", \\w+".repeat(arguments - 1);
                Pattern row = Pattern.compile(
                        "^\\| `" + m.getName() + "\\(" + inside + "\\)` \\|.*\\|$",
                        Pattern.MULTILINE);
                CHECK.yes("a row for " + m.getName(), row.matcher(readme).find());
            }
        }
    }

    /** "how an object is made", "what a refused call answers", "for how many calls". */
    private static void uses(String readme) {
        tells(readme, "new CellTests()");
        tells(readme, "A call that is refused");
        tells(readme, "When it is refused");
        tells(readme, "at most 512 calls");
        tells(readme, "`NONE` is " + CellTests.NONE);
        tells(readme, "`NO_CLASS` is " + CellTests.NO_CLASS);
    }

    /** "what is needed, the command, what its last line says", and every test by its name. */
    private static void tests(String readme) throws IOException {
        tells(readme, "    .ci/run");
        tells(readme, "`javac` and `java` of a JDK 17");
        tells(readme, "`N passed, N failed`");
        try (Stream<Path> files = Files.list(Path.of("src/test/java"))) {
            for (Path file : files.sorted().toList()) {
                String name = file.getFileName().toString().replace(".java", "");
                if (name.endsWith("Test") && !name.matches("P(0[2-9]|1[0-8]).*")) {
                    tells(readme, "`" + name + "`");
                }
            }
        }
    }

    private static void tells(String readme, String words) {
        String told = readme.replaceAll("\\s+", " ");
        CHECK.yes("README.md tells: " + words, told.contains(words.replaceAll("\\s+", " ")));
    }
}
