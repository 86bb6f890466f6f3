import java.io.IOException;
import java.lang.reflect.Field;
import java.lang.reflect.Method;
import java.lang.reflect.Modifier;
import java.net.URL;
import java.net.URLClassLoader;
import java.nio.file.Files;
import java.nio.file.Path;
import java.util.ArrayList;
import java.util.List;
import java.util.Set;
import java.util.TreeSet;
import java.util.regex.Matcher;
import java.util.regex.Pattern;
import javax.tools.ToolProvider;

/**
 * What README.md says of the class: its example is compiled and run, and each call must answer what stands behind
 * it; the codes have the values, and the calls the parameters, that its tables tell. Run where README.md is.
 */
public final class ReadmeTest {
    private static final Pattern CALL = Pattern.compile("(?:int (\\w+) = )?(oracle\\.\\w+\\(.*\\)); +// ([\\w-]+)(?:: .+)?");
    private static final Pattern CODE_ROW = Pattern.compile("\\| `([A-Z_]+)` \\| (-?\\d+) \\| .+ \\|");
    private static final Pattern CALL_ROW = Pattern.compile("\\| `(\\w+)\\((.*)\\)` \\| .+ \\|");
    private static final Due due = new Due("ReadmeTest");

    public static void main(String[] args) throws IOException, ReflectiveOperationException {
        List<String> readme = Files.readAllLines(Path.of("README.md"));
        example(javaLines(readme));
        codes(readme);
        calls(readme);
        due.is("it says how the tests are run", readme.contains(".ci/run"), true);
        due.end();
    }

    private static List<String> javaLines(List<String> readme) {
        List<String> lines = new ArrayList<>();
        boolean inside = false;
        for (String line : readme) {
            if (line.startsWith("```")) {
                inside = line.equals("```java");
            } else if (inside && !line.isBlank()) {
                lines.add(line);
            }
        }
        return lines;
    }

    /** Each call of the example must have its answer behind it, and all but its first line are calls. */
    private static void example(List<String> lines) throws IOException, ReflectiveOperationException {
        StringBuilder body = new StringBuilder();
        List<String> labels = new ArrayList<>();
        for (String line : lines) {
            Matcher call = CALL.matcher(line);
            if (line.equals("MemberOracle oracle = new MemberOracle();")) {
                body.append(line).append('\n');
            } else if (call.matches()) {
                labels.add(call.group(2));
                body.append(compared(call));
            } else {
                due.is("a call with its answer: " + line, false, true);
            }
        }
        List<Object> answers = answers(body.toString());
        due.is("answers of the example", answers.size(), 2 * labels.size());
        for (int i = 0; i < answers.size() / 2; i++) {
            due.is("README.md: " + labels.get(i), number(answers.get(2 * i)), number(answers.get(2 * i + 1)));
        }
        everyMethodIsShown(labels);
    }

    /** The line itself, and lines that note what it has answered and what is written behind it. */
    private static String compared(Matcher call) {
        String variable = call.group(1);
        String said = call.group(3).matches("[A-Z_]+") ? "MemberOracle." + call.group(3) : call.group(3);
        String told = variable == null ? "" : "int " + variable + " = " + call.group(2) + ";\n";
        String got = variable == null ? call.group(2) : variable;
        return told + "answers.add(" + got + ");\nanswers.add(" + said + ");\n";
    }

    /** A boolean is told from every int, so that no answer 1 passes for true. */
    private static long number(Object answer) {
        return answer instanceof Boolean ? Long.MAX_VALUE - ((Boolean) answer ? 0 : 1) : (Integer) answer;
    }

    private static List<Object> answers(String body) throws IOException, ReflectiveOperationException {
        Path folder = Files.createTempDirectory("readme");
        Path source = folder.resolve("ReadmeExample.java");
        Path compiled = folder.resolve("ReadmeExample.class");
        List<Object> answers = new ArrayList<>();
        try {
            Files.writeString(source, "public final class ReadmeExample {\n"
                + "public static void play(java.util.List<Object> answers) {\n" + body + "}\n}\n");
            int failed = ToolProvider.getSystemJavaCompiler().run(null, null, null, "-cp",
                System.getProperty("java.class.path"), "-d", folder.toString(), source.toString());
            due.is("the example compiles", failed, 0);
            if (failed == 0) {
                play(folder, answers);
            }
        } finally {
            Files.deleteIfExists(compiled);
            Files.deleteIfExists(source);
            Files.delete(folder);
        }
        return answers;
    }

    private static void play(Path folder, List<Object> answers) throws IOException, ReflectiveOperationException {
        try (URLClassLoader loader = new URLClassLoader(new URL[] {folder.toUri().toURL()})) {
            loader.loadClass("ReadmeExample").getMethod("play", List.class).invoke(null, answers);
        }
    }

    private static void everyMethodIsShown(List<String> labels) {
        for (Method method : MemberOracle.class.getDeclaredMethods()) {
            if (Modifier.isPublic(method.getModifiers())) {
                String start = "oracle." + method.getName() + "(";
                due.is("the example shows " + method.getName(), labels.stream().anyMatch(l -> l.startsWith(start)), true);
            }
        }
    }

    private static void codes(List<String> readme) throws IllegalAccessException {
        Set<String> told = new TreeSet<>();
        for (String line : readme) {
            Matcher row = CODE_ROW.matcher(line);
            if (row.matches()) {
                told.add(row.group(1) + " " + row.group(2));
            }
        }
        Set<String> real = new TreeSet<>();
        for (Field field : MemberOracle.class.getFields()) {
            real.add(field.getName() + " " + field.getInt(null));
        }
        same("the codes", told, real);
    }

    private static void calls(List<String> readme) {
        Set<String> told = new TreeSet<>();
        for (String line : readme) {
            Matcher row = CALL_ROW.matcher(line);
            if (row.matches()) {
                int parameters = row.group(2).isEmpty() ? 0 : row.group(2).split(", ").length;
                told.add(row.group(1) + " of " + parameters);
            }
        }
        Set<String> real = new TreeSet<>();
        for (Method method : MemberOracle.class.getDeclaredMethods()) {
            if (Modifier.isPublic(method.getModifiers())) {
                real.add(method.getName() + " of " + method.getParameterCount());
            }
        }
        same("the calls", told, real);
    }

    private static void same(String what, Set<String> told, Set<String> real) {
        if (!told.equals(real)) {
            System.out.println("README.md tells " + told + ", the class has " + real);
        }
        due.is("README.md tells " + what, told.equals(real), true);
    }
}
