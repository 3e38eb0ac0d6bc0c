import java.io.IOException;
import java.lang.reflect.Method;
import java.lang.reflect.Modifier;
import java.net.URL;
import java.net.URLClassLoader;
import java.nio.file.Files;
import java.nio.file.Path;
import java.util.ArrayList;
import java.util.Comparator;
import java.util.List;
import java.util.Set;
import java.util.TreeSet;
import java.util.regex.Matcher;
import java.util.regex.Pattern;
import java.util.stream.Stream;
import javax.tools.ToolProvider;

/** The calls that README.md shows compile and answer as it says. .ci/run starts it in the project's folder. */
public final class ReadmeTest {
    private static final Pattern CALL = Pattern.compile("(t\\.(\\w+)\\([^;]*\\));\\s*// (true|false|NONE|\\d+)(: .*)?");

    private final List<String> calls = new ArrayList<>();
    private final List<String> said = new ArrayList<>();
    private final Set<String> shown = new TreeSet<>();
    private final StringBuilder program = new StringBuilder();

    public static void main(String[] args) throws IOException, ReflectiveOperationException {
        ReadmeTest test = new ReadmeTest();
        test.read(Files.readAllLines(Path.of("README.md")));
        test.eachMethodIsShown();
        Path folder = Files.createTempDirectory("readme");
        try {
            test.run(folder);
        } finally {
            remove(folder);
        }
        Checks.finish();
    }

    /** Of each line of the Java that is shown, one of a program that keeps its answer. */
    private void read(List<String> lines) {
        program.append("public final class ReadmeUse {\n");
        program.append("public static void run(java.util.List<String> answers) {\n");
        boolean inside = false;
        for (String line : lines) {
            if (line.startsWith("```")) {
                inside = line.equals("```java");
            } else if (inside) {
                readLine(line);
            }
        }
        program.append("}\n}\n");
    }

    private void readLine(String line) {
        Matcher call = CALL.matcher(line);
        if (call.matches()) {
            calls.add(call.group(1));
            shown.add(call.group(2));
            said.add(call.group(3).equals("NONE") ? "" + BuoyTender.NONE : call.group(3));
            program.append("answers.add(String.valueOf(").append(call.group(1)).append("));\n");
        } else {
            Checks.no("a call without its answer: " + line, line.startsWith("t."));
            program.append(line).append('\n');
        }
    }

    private void eachMethodIsShown() {
        for (Method m : BuoyTender.class.getDeclaredMethods()) {
            if (Modifier.isPublic(m.getModifiers())) {
                Checks.yes("README.md shows " + m.getName(), shown.contains(m.getName()));
            }
        }
    }

    private void run(Path folder) throws IOException, ReflectiveOperationException {
        Path source = folder.resolve("ReadmeUse.java");
        Files.writeString(source, program);
        int compiled = ToolProvider.getSystemJavaCompiler().run(null, null, null, "-d", folder.toString(),
            "-cp", System.getProperty("java.class.path"), source.toString());
        Checks.due("compiling what README.md shows", compiled, 0);
        if (compiled != 0) {
            return;
        }
        List<String> answers = new ArrayList<>();
        try (URLClassLoader loader = new URLClassLoader(new URL[] {folder.toUri().toURL()})) {
            loader.loadClass("ReadmeUse").getMethod("run", List.class).invoke(null, answers);
        }
        Checks.due("answers", answers.size(), said.size());
        for (int i = 0; i < answers.size() && i < said.size(); i++) {
            Checks.yes(calls.get(i) + " answered " + answers.get(i) + ", README.md says " + said.get(i),
                answers.get(i).equals(said.get(i)));
        }
    }

    private static void remove(Path folder) throws IOException {
        try (Stream<Path> all = Files.walk(folder)) {
            for (Path p : all.sorted(Comparator.reverseOrder()).toList()) {
                Files.delete(p);
            }
        }
    }
}
