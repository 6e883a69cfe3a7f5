import java.io.IOException;
import java.io.StringWriter;
import java.lang.invoke.MethodHandles;
import java.lang.reflect.Field;
import java.lang.reflect.Method;
import java.lang.reflect.Modifier;
import java.net.URI;
import java.nio.file.Files;
import java.nio.file.Path;
import java.util.ArrayList;
import java.util.List;
import java.util.regex.Matcher;
import java.util.regex.Pattern;
import java.util.stream.Stream;
import javax.tools.JavaCompiler;
import javax.tools.SimpleJavaFileObject;
import javax.tools.ToolProvider;

/**
 * README.md: its Java examples, compiled and run one behind the other, answer what their comments say; it names each call
 * and each constant of the face, and each test.
 */
public final class ReadmeTest {
    private static final Check T = new Check();
    private static final Path README = Path.of("README.md");
    private static final Path TESTS = Path.of("src/test/java");
    private static final String EXAMPLES = "Examples";
    private static final String IMPORTS = "import java.nio.ByteBuffer; import java.nio.charset.StandardCharsets; import java.util.Arrays;\n";
    private static final Pattern BLOCK = Pattern.compile("^```java\n(.*?)^```$", Pattern.MULTILINE | Pattern.DOTALL);
    private static final Pattern ANSWER = Pattern.compile("(.*); *// = (\"[^\"]*\"|-?\\d+)(:.*)?");
    private static final Pattern REFUSAL = Pattern.compile("(.*); *// throws (\\w+)(:.*)?");

    private ReadmeTest() {
    }

    public static void main(String[] args) throws Exception {
        String readme = Files.readString(README);
        names(readme);
        run(program(readme));
        T.close("ReadmeTest");
    }

    private static void names(String readme) throws IOException {
        for (Method method : RayLayers.class.getDeclaredMethods()) {
            if (Modifier.isPublic(method.getModifiers())) {
                T.due("it names " + method.getName() + "()", readme.contains("`" + method.getName() + "()`"), true);
            }
        }
        for (Field field : RayLayers.class.getDeclaredFields()) {
            if (Modifier.isPublic(field.getModifiers())) {
                T.due("it names " + field.getName(), readme.contains("`" + field.getName() + "`"), true);
            }
        }
        List<String> tests = new ArrayList<>();
        try (Stream<Path> files = Files.list(TESTS)) {
            files.map(file -> file.getFileName().toString()).filter(name -> name.endsWith("Test.java")).sorted()
                    .forEach(name -> tests.add(name.replace(".java", "")));
        }
        for (String test : tests) {
            T.due("it tells what " + test + " checks", readme.contains("\n| " + test + " | "), true);
        }
        Matcher row = Pattern.compile("^\\| (\\w+Test) \\|", Pattern.MULTILINE).matcher(readme);
        while (row.find()) {
            T.due("a test of the project: " + row.group(1), tests.contains(row.group(1)), true);
        }
    }

    /** The examples as a class: blocks that begin with a method are its members, all others are its run. */
    private static String program(String readme) {
        StringBuilder members = new StringBuilder();
        StringBuilder statements = new StringBuilder();
        Matcher block = BLOCK.matcher(readme);
        while (block.find()) {
            if (block.group(1).startsWith("static ")) {
                members.append("public ").append(block.group(1));
            } else {
                block.group(1).lines().forEach(line -> statements.append(asked(line)));
            }
        }
        return IMPORTS + "public final class " + EXAMPLES + " {\n" + members
                + "public static void run(Check t) {\n" + statements + "}\n}\n";
    }

    private static String asked(String line) {
        Matcher answer = ANSWER.matcher(line);
        if (answer.matches()) {
            return "t.due(" + quoted(answer.group(1)) + ", " + answer.group(1) + ", " + answer.group(2) + ");\n";
        }
        Matcher refusal = REFUSAL.matcher(line);
        if (refusal.matches()) {
            return "t.due(" + quoted(refusal.group(1)) + ", Check.outcome(() -> { " + refusal.group(1) + "; return 0; }), \"throws."
                    + refusal.group(2) + "\");\n";
        }
        T.due("a call without what it answers: " + line, line.contains("//"), false);
        return line + "\n";
    }

    private static String quoted(String text) {
        return "\"" + text.replace("\\", "\\\\").replace("\"", "\\\"") + "\"";
    }

    private static void run(String program) throws Exception {
        Path folder = Files.createTempDirectory("readme");
        try {
            StringWriter errors = new StringWriter();
            T.due("the examples compile", compiled(program, folder, errors) ? "" : program + errors, "");
            // In this class's own package, so that the examples can use Check.
            Class<?> examples = MethodHandles.lookup().defineClass(Files.readAllBytes(folder.resolve(EXAMPLES + ".class")));
            examples.getMethod("run", Check.class).invoke(null, T);
        } finally {
            Files.deleteIfExists(folder.resolve(EXAMPLES + ".class"));
            Files.deleteIfExists(folder);
        }
    }

    private static boolean compiled(String program, Path folder, StringWriter errors) {
        JavaCompiler compiler = ToolProvider.getSystemJavaCompiler();
        List<String> options = List.of("-d", folder.toString(), "-cp", System.getProperty("java.class.path"));
        SimpleJavaFileObject source = new SimpleJavaFileObject(URI.create("string:///" + EXAMPLES + ".java"), SimpleJavaFileObject.Kind.SOURCE) {
            @Override
            public CharSequence getCharContent(boolean ignoreErrors) {
                return program;
            }
        };
        return compiler.getTask(errors, null, null, options, null, List.of(source)).call();
    }
}
