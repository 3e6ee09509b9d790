import java.io.File;
import java.lang.reflect.Method;
import java.lang.reflect.Modifier;
import java.net.URL;
import java.net.URLClassLoader;
import java.nio.file.Files;
import java.nio.file.Path;
import java.util.ArrayList;
import java.util.List;
import javax.tools.ToolProvider;

/** README.md's example is compiled as it stands there, and each of its lines answers what the README says. */
public final class BatchSavingsReadme {
    private static final Path README = Path.of("README.md");

    public static void main(String[] args) throws Exception {
        List<String> example = example(Files.readAllLines(README));
        List<String> wrong = new ArrayList<>();
        compare(example, answers(program(example)), wrong);
        needEveryMethod(example, wrong);
        wrong.forEach(System.out::println);
        System.out.println(example.size() + " lines of the example, " + wrong.size() + " wrong");
        if (!wrong.isEmpty()) {
            System.exit(1);
        }
    }

    /** The lines of the first block of Java. */
    private static List<String> example(List<String> readme) {
        List<String> found = new ArrayList<>();
        int start = readme.indexOf("```java");
        for (int i = start + 1; start >= 0 && i < readme.size() && !readme.get(i).equals("```"); i++) {
            if (!readme.get(i).isBlank()) {
                found.add(readme.get(i));
            }
        }
        return found;
    }

    private static String statement(String line) {
        return line.contains("//") ? line.substring(0, line.indexOf("//")).strip() : line.strip();
    }

    /** What stands between the slashes and the colon, if there is one; "done" for a line that tells no answer. */
    private static String due(String line) {
        return line.contains("//") ? line.substring(line.indexOf("//") + 2).split(":", 2)[0].strip() : "done";
    }

    private static String program(List<String> example) {
        StringBuilder text = new StringBuilder("public final class Example {\n"
                + "public static void run(java.util.List<String> answers) {\n");
        for (String line : example) {
            String statement = statement(line);
            boolean declares = statement.contains(" = ");
            if (declares) {
                String name = statement.substring(0, statement.indexOf(" = ")).replaceAll(".* ", "");
                text.append(statement).append(line.contains("//") ? add(name) : add("\"done\""));
            } else {
                String call = statement.replaceAll(";$", "");
                text.append("try { ").append(line.contains("//") ? add(call) : statement + add("\"done\""));
                text.append("} catch (RuntimeException e) { ");
                text.append(add("\"throws \" + e.getClass().getSimpleName()")).append("}\n");
            }
        }
        return text.append("}\n}\n").toString();
    }

    private static String add(String expression) {
        return " answers.add(String.valueOf(" + expression + "));\n";
    }

    private static List<String> answers(String program) throws Exception {
        Path folder = Files.createTempDirectory("readme");
        Path source = folder.resolve("Example.java");
        Path compiled = folder.resolve("Example.class");
        try {
            Files.writeString(source, program);
            String path = System.getProperty("java.class.path");
            int failed = ToolProvider.getSystemJavaCompiler().run(null, null, null,
                    "-cp", path, "-d", folder.toString(), source.toString());
            if (failed != 0) {
                throw new IllegalStateException("the example does not compile:\n" + program);
            }
            return run(folder.toFile());
        } finally {
            Files.deleteIfExists(source);
            Files.deleteIfExists(compiled);
            Files.delete(folder);
        }
    }

    private static List<String> run(File folder) throws Exception {
        List<String> answers = new ArrayList<>();
        try (URLClassLoader loader = new URLClassLoader(new URL[] {folder.toURI().toURL()},
                BatchSavingsReadme.class.getClassLoader())) {
            loader.loadClass("Example").getMethod("run", List.class).invoke(null, answers);
        }
        return answers;
    }

    private static void compare(List<String> example, List<String> answers, List<String> wrong) {
        for (int i = 0; i < example.size(); i++) {
            String due = due(example.get(i));
            if (!answers.get(i).equals(due)) {
                wrong.add(statement(example.get(i)) + " answered " + answers.get(i) + ", README.md says " + due);
            }
        }
    }

    private static void needEveryMethod(List<String> example, List<String> wrong) {
        for (Method each : BatchSavings.class.getDeclaredMethods()) {
            String call = "x." + each.getName() + "(";
            if (Modifier.isPublic(each.getModifiers())
                    && example.stream().noneMatch(line -> statement(line).contains(call))) {
                wrong.add("the example has no call of " + each.getName());
            }
        }
    }
}
