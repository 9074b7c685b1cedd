import java.io.File;
import java.io.IOException;
import java.lang.reflect.Method;
import java.lang.reflect.Modifier;
import java.net.URL;
import java.net.URLClassLoader;
import java.nio.file.Files;
import java.nio.file.Path;
import java.util.ArrayList;
import java.util.Arrays;
import java.util.List;
import java.util.regex.Matcher;
import java.util.regex.Pattern;
import javax.tools.JavaCompiler;
import javax.tools.ToolProvider;

/**
 * What README.md shows: its examples are compiled and run, and the calls and tests that it names are there. It is run
 * from the project's directory.
 */
public final class ReadmeTest {
    private static final Path OUT = Path.of("build/readme");
    private static final Pattern EXAMPLE = Pattern.compile("(?ms)^```java\n(.*?)^```$");
    private static final Pattern LINE =
        Pattern.compile("(?:(?:int|long) (\\w+) = )?(works\\.\\w+\\(.*\\));\\s*// (-?\\d+)\\b.*");

    public static void main(String[] args) throws ReflectiveOperationException, IOException {
        String readme = Files.readString(Path.of("README.md"));
        examples(readme);
        calls(readme);
        testsThatAreThere(readme);
        testsThatAreNamed(readme);
        Due.end("ReadmeTest");
    }

    private static void examples(String readme) throws ReflectiveOperationException, IOException {
        List<Example> all = new ArrayList<>();
        Matcher m = EXAMPLE.matcher(readme);
        while (m.find()) {
            all.add(new Example("ReadmeExample" + all.size(), m.group(1)));
        }
        Due.is("README has examples", all.isEmpty() ? 0 : 1, 1);
        if (compiled(all)) {
            for (Example e : all) {
                e.run();
            }
        }
    }

    private static boolean compiled(List<Example> all) throws IOException {
        Files.createDirectories(OUT);
        List<String> arguments = new ArrayList<>(List.of("-d", OUT.toString(), "-cp", classPath()));
        for (Example e : all) {
            Path file = OUT.resolve(e.name + ".java");
            Files.writeString(file, e.source());
            arguments.add(file.toString());
        }
        JavaCompiler javac = ToolProvider.getSystemJavaCompiler();
        int exit = javac == null ? -1 : javac.run(null, null, null, arguments.toArray(new String[0]));
        Due.is("compiling README's examples", exit, 0);
        return exit == 0;
    }

    private static String classPath() {
        return System.getProperty("java.class.path");
    }

    /** Each call of the face has a row, with as many arguments as it takes. */
    private static void calls(String readme) {
        for (Method m : ColdWorks.class.getDeclaredMethods()) {
            if (Modifier.isPublic(m.getModifiers())) {
                Matcher row = Pattern.compile("\\| `" + m.getName() + "\\(([^)]*)\\)` \\|").matcher(readme);
                boolean found = row.find();
                Due.is("README has a row for " + m.getName(), found ? 1 : 0, 1);
                int shown = !found || row.group(1).isEmpty() ? 0 : row.group(1).split(", ").length;
                Due.is("README's arguments of " + m.getName(), shown, m.getParameterCount());
            }
        }
    }

    private static void testsThatAreThere(String readme) {
        String[] files = new File("src/test/java").list((dir, name) -> name.endsWith("Test.java"));
        for (String file : files) {
            String test = file.substring(0, file.length() - ".java".length());
            Due.is("README has a row for " + test, readme.contains("| `" + test + "` |") ? 1 : 0, 1);
        }
    }

    /** A name without a class before its dot, as in "`.setNumbers`", is of the class that was named last. */
    private static void testsThatAreNamed(String readme) {
        Matcher m = Pattern.compile("`(\\w+Test)?\\.?([a-z]\\w*)?`").matcher(readme);
        String last = "";
        while (m.find()) {
            last = m.group(1) == null ? last : m.group(1);
            boolean ofAClass = m.group().startsWith("`.") || m.group(1) != null;
            if (ofAClass) {
                Due.is("README's " + m.group() + " is there", isThere(last, m.group(2)) ? 1 : 0, 1);
            }
        }
    }

    private static boolean isThere(String test, String method) {
        try {
            Method[] all = Class.forName(test).getDeclaredMethods();
            return method == null || Arrays.stream(all).anyMatch(m -> m.getName().equals(method));
        } catch (ClassNotFoundException e) {
            return false;
        }
    }

    /** One block of README: its lines, and what each call in them is said to answer. */
    private static final class Example {
        private final String name;
        private final StringBuilder body = new StringBuilder();
        private final List<String> shown = new ArrayList<>();
        private final List<Long> answers = new ArrayList<>();

        Example(String name, String block) {
            this.name = name;
            for (String line : block.split("\n")) {
                add(line);
            }
        }

        private void add(String line) {
            Matcher m = LINE.matcher(line);
            if (m.matches()) {
                String keep = "got[" + answers.size() + "] = ";
                body.append(m.group(1) == null ? keep + line : line + "\n" + keep + m.group(1) + ";").append("\n");
                shown.add(m.group(2));
                answers.add(Long.parseLong(m.group(3)));
            } else {
                // A call without its answer would be shown and never held to.
                Due.is("README: an answer stands behind " + line, line.contains("works.") ? 0 : 1, 1);
                body.append(line).append("\n");
            }
        }

        String source() {
            return "public final class " + name + " {\npublic static long[] answers() {\nlong[] got = new long["
                + answers.size() + "];\n" + body + "return got;\n}\n}\n";
        }

        void run() throws ReflectiveOperationException, IOException {
            URL[] places = {OUT.toUri().toURL()};
            try (URLClassLoader loader = new URLClassLoader(places, ReadmeTest.class.getClassLoader())) {
                long[] got = (long[]) loader.loadClass(name).getMethod("answers").invoke(null);
                for (int i = 0; i < got.length; i++) {
                    Due.is(name + ": " + shown.get(i), got[i], answers.get(i));
                }
            }
        }
    }
}
