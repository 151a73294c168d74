import java.io.IOException;
import java.io.StringWriter;
import java.lang.reflect.Method;
import java.lang.reflect.Modifier;
import java.net.URL;
import java.net.URLClassLoader;
import java.nio.file.Files;
import java.nio.file.Path;
import java.util.ArrayList;
import java.util.List;
import java.util.TreeSet;
import java.util.regex.Matcher;
import java.util.regex.Pattern;
import java.util.stream.Stream;
import javax.tools.JavaCompiler;
import javax.tools.StandardJavaFileManager;
import javax.tools.ToolProvider;

/** What README.md says is so: its examples compile and answer as told, and it names every call and every test. */
public final class ReadmeTest {
    private static final Pattern EXAMPLE = Pattern.compile("```java\n(.*?)```", Pattern.DOTALL);
    private static final Pattern ANSWERED = Pattern.compile("(x\\.\\w+\\(.*\\)); +// (-?\\d+): .*");

    /** The examples' answers: that of a call, and that told behind it, one behind the other. */
    public static final List<Long> ANSWERS = new ArrayList<>();

    private static int looked, wrong;

    private static void must(boolean is, String what) {
        looked++;
        if (!is) {
            wrong++;
            System.out.println("README.md: " + what);
        }
    }

    private static void names(String readme) throws IOException {
        for (Method method : NextOneKnows.class.getDeclaredMethods()) {
            if (Modifier.isPublic(method.getModifiers())) {
                Matcher call = Pattern.compile("`" + method.getName() + "\\(([^)]*)\\)`").matcher(readme);
                int told = !call.find() ? -1 : call.group(1).isEmpty() ? 0 : call.group(1).split(",").length;
                must(told == method.getParameterCount(), method.getName() + " is not told, or with other numbers");
            }
        }
        TreeSet<String> tests = new TreeSet<>();
        try (Stream<Path> files = Files.list(Path.of("src/test/java"))) {
            files.map(file -> file.getFileName().toString()).filter(name -> name.endsWith("Test.java"))
                    .forEach(name -> tests.add(name.replace(".java", "")));
        }
        TreeSet<String> told = new TreeSet<>();
        Matcher row = Pattern.compile("(?m)^\\| `(\\w+)` \\|").matcher(readme);
        while (row.find()) {
            told.add(row.group(1));
        }
        must(told.equals(tests), "its table of tests is " + told + ", the tests are " + tests);
    }

    private static void constants(String readme) {
        must(readme.contains("`NONE` (" + NextOneKnows.NONE + ")"), "NONE");
        must(readme.contains("`BAD` (" + NextOneKnows.BAD + ")"), "BAD");
        must(readme.contains("`STATE` (" + NextOneKnows.STATE + ")"), "STATE");
        must(readme.contains("`FULL` (" + NextOneKnows.FULL + ")"), "FULL");
    }

    private static void example(String name, String text) throws Exception {
        StringBuilder body = new StringBuilder();
        List<String> calls = new ArrayList<>();
        for (String line : text.split("\n")) {
            Matcher answered = ANSWERED.matcher(line);
            if (answered.matches()) {
                calls.add(answered.group(1));
                body.append("ReadmeTest.ANSWERS.add((long) ").append(answered.group(1)).append("); ReadmeTest.ANSWERS.add(")
                        .append(answered.group(2)).append("L);\n");
            } else {
                must(!line.contains("//"), "no answer is told behind: " + line);
                body.append(line).append('\n');
            }
        }
        must(!calls.isEmpty(), name + " calls nothing");
        run(name, "public class " + name + " { public static void run() {\n" + body + "} }\n");
        for (int k = 0; k < calls.size(); k++) {
            long got = ANSWERS.get(2 * k), told = ANSWERS.get(2 * k + 1);
            must(got == told, calls.get(k) + " answered " + got + ", told is " + told);
        }
    }

    private static void run(String name, String source) throws Exception {
        Path room = Files.createTempDirectory("readme");
        try {
            Path file = Files.writeString(room.resolve(name + ".java"), source);
            JavaCompiler javac = ToolProvider.getSystemJavaCompiler();
            StringWriter faults = new StringWriter();
            try (StandardJavaFileManager files = javac.getStandardFileManager(null, null, null)) {
                List<String> options = List.of("-d", room.toString(), "-cp", System.getProperty("java.class.path"));
                boolean compiles = javac.getTask(faults, files, null, options, null, files.getJavaFileObjects(file)).call();
                if (!compiles) {
                    throw new IllegalStateException(name + " of README.md does not compile:\n" + faults);
                }
            }
            ANSWERS.clear();
            try (URLClassLoader loader = new URLClassLoader(new URL[] {room.toUri().toURL()}, ReadmeTest.class.getClassLoader())) {
                loader.loadClass(name).getMethod("run").invoke(null);
            }
        } finally {
            try (Stream<Path> all = Files.list(room)) {
                for (Object each : all.toArray()) {
                    Files.delete((Path) each);
                }
            }
            Files.delete(room);
        }
    }

    public static void main(String[] args) throws Exception {
        String readme = Files.readString(Path.of("README.md"));
        names(readme);
        constants(readme);
        Matcher examples = EXAMPLE.matcher(readme);
        int many = 0;
        while (examples.find()) {
            many++;
            example("Example" + many, examples.group(1));
        }
        must(many >= 2, "it has " + many + " examples");
        System.out.println(looked + " things looked at, " + wrong + " wrong");
        if (wrong != 0) {
            System.exit(1);
        }
    }
}
