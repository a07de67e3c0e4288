import java.io.IOException;
import java.lang.reflect.Method;
import java.net.URL;
import java.net.URLClassLoader;
import java.nio.file.Files;
import java.nio.file.Path;
import java.util.ArrayList;
import java.util.List;
import java.util.regex.Matcher;
import java.util.regex.Pattern;
import java.util.stream.Stream;
import javax.tools.ToolProvider;

/** README.md: each call with what it is refused with, in the document's groups; its examples are compiled and run. */
public final class ReadmeTests {
    private static final Path README = Path.of("README.md");
    private static final Path TESTS = Path.of("src/test/java");
    /** A call with its answer: "place.press(2, 3);   // 3 blocks", "// NONE", or "// throws ...Exception". */
    private static final Pattern ANSWER = Pattern.compile(
        "^\\s*(?:(?:int|long) (\\w+) = )?(place[.]\\w+\\(.*\\));\\s*// (?:throws )?(-?\\d+|NONE|\\w+Exception)\\b.*$");
    private static final String FRAME = String.join("\n",
        "public final class ReadmeExamples {",
        "    private interface Call { long make(); }",
        "    private static String endOf(Call call) {",
        "        try { return String.valueOf(call.make()); }",
        "        catch (RuntimeException e) { return e.getClass().getName(); }",
        "    }",
        "    public static void run(java.util.List<String> ends) {", "%s    }", "}");

    private ReadmeTests() {
    }

    public static void main(String[] args) throws IOException, ReflectiveOperationException {
        eachCallInItsGroup();
        eachCallWithItsExceptions();
        eachTestIsNamed();
        theExamples();
        Checks.finish();
    }

    private static void eachCallInItsGroup() throws IOException {
        Checks.sentence("README.md says how the class is used (each group of methods)");
        List<List<String>> due = Groups.ofTheDocument();
        Checks.is("groups", due.size(), 5);
        for (List<String> group : due) {
            group.set(0, Character.toUpperCase(group.get(0).charAt(0)) + group.get(0).substring(1));
        }
        // A heading of the document goes on behind a comma: "what if, which changes nothing".
        List<List<String>> told = Groups.of(README, "^### (.*)$", "^[|] `(\\w+)\\(");
        for (int i = 0; i < due.size(); i++) {
            Checks.is("its heading", due.get(i).get(0).startsWith(told.get(i).get(0)) ? 1 : 0, 1);
            Checks.is("its calls", told.get(i).subList(1, told.get(i).size()).toString(),
                due.get(i).subList(1, due.get(i).size()).toString());
        }
        Checks.is("no call outside the groups", told.size(), due.size());
    }

    /** The last cell of a row tells the exceptions in the order of the method's "throws". */
    private static void eachCallWithItsExceptions() throws IOException {
        Checks.sentence("README.md says [..] what a refused call throws");
        List<String> rows = Files.readAllLines(README);
        for (Method method : SnowSites.class.getMethods()) {
            if (method.getDeclaringClass() == SnowSites.class) {
                List<String> due = new ArrayList<>();
                for (Class<?> thrown : method.getExceptionTypes()) {
                    due.add(thrown.getSimpleName());
                }
                Checks.is(method.getName() + " is refused with", refusals(rows, method).toString(), due.toString());
            }
        }
        Checks.is("that it changes nothing", String.join(" ", rows).contains("A refused call changes nothing") ? 1 : 0, 1);
    }

    private static List<String> refusals(List<String> rows, Method method) {
        String arguments = "\\w+(, \\w+){" + (method.getParameterCount() - 1) + "}";
        String call = method.getName() + "\\(" + (method.getParameterCount() == 0 ? "" : arguments) + "\\)";
        List<String> told = new ArrayList<>();
        int found = 0;
        for (String row : rows) {
            if (Pattern.matches("[|] `" + call + "` [|].*", row)) {
                found++;
                Matcher exception = Pattern.compile("`(\\w+Exception)`").matcher(row);
                while (exception.find()) {
                    told.add(exception.group(1));
                }
            }
        }
        Checks.is("rows for " + method.getName(), found, 1);
        return told;
    }

    private static void eachTestIsNamed() throws IOException {
        Checks.sentence("README.md says [..] how its tests are run.");
        String text = Files.readString(README);
        Checks.is("the command", text.contains("\n.ci/run\n") ? 1 : 0, 1);
        try (Stream<Path> files = Files.list(TESTS)) {
            for (Path file : files.toList()) {
                String name = file.getFileName().toString().replace(".java", "");
                boolean told = !name.endsWith("Tests") || text.contains("`" + name + "`");
                Checks.is(name + " is named", told ? 1 : 0, 1);
            }
        }
    }

    private static void theExamples() throws IOException, ReflectiveOperationException {
        Checks.sentence("The examples of README.md answer as they say.");
        List<String> calls = new ArrayList<>();
        List<String> due = new ArrayList<>();
        String code = examplesOf(Files.readAllLines(README), calls, due);
        List<String> ends = endsOf(String.format(FRAME, code));
        Checks.is("there are some", due.size() > 40 ? 1 : 0, 1);
        Checks.is("as many answers", ends.size(), due.size());
        for (int i = 0; i < Math.min(ends.size(), due.size()); i++) {
            Checks.is(calls.get(i), ends.get(i), due.get(i));
        }
    }

    /** The lines of all examples, each example in a block of its own; a call that tells its answer puts it on a list. */
    private static String examplesOf(List<String> lines, List<String> calls, List<String> due) {
        StringBuilder code = new StringBuilder();
        boolean inside = false;
        for (String line : lines) {
            if (line.startsWith("```")) {
                code.append(line.equals("```java") ? "{\n" : inside ? "}\n" : "");
                inside = line.equals("```java");
            } else if (inside) {
                code.append(told(line, calls, due)).append('\n');
            }
        }
        return code.toString();
    }

    private static String told(String line, List<String> calls, List<String> due) {
        Matcher answer = ANSWER.matcher(line);
        if (!answer.matches()) {
            return line;
        }
        calls.add("README: " + answer.group(2));
        String end = answer.group(3);
        due.add(end.equals("NONE") ? "-1" : end.endsWith("Exception") ? "java.lang." + end : end);
        if (answer.group(1) != null) {
            return "int " + answer.group(1) + " = " + answer.group(2) + "; ends.add(String.valueOf(" + answer.group(1) + "));";
        }
        return "ends.add(endOf(() -> " + answer.group(2) + "));";
    }

    private static List<String> endsOf(String code) throws IOException, ReflectiveOperationException {
        Path folder = Files.createTempDirectory("readme");
        Path source = folder.resolve("ReadmeExamples.java");
        List<String> ends = new ArrayList<>();
        try {
            Files.writeString(source, code);
            int end = ToolProvider.getSystemJavaCompiler().run(null, null, null, "-proc:none", "-cp",
                System.getProperty("java.class.path"), "-d", folder.toString(), source.toString());
            Checks.is("the examples compile", end, 0);
            if (end == 0) {
                run(folder, ends);
            }
        } finally {
            remove(folder);
        }
        return ends;
    }

    private static void run(Path folder, List<String> ends) throws IOException, ReflectiveOperationException {
        try (URLClassLoader loader = new URLClassLoader(new URL[] {folder.toUri().toURL()})) {
            loader.loadClass("ReadmeExamples").getMethod("run", List.class).invoke(null, ends);
        }
    }

    private static void remove(Path folder) throws IOException {
        try (Stream<Path> files = Files.list(folder)) {
            for (Path file : files.toList()) {
                Files.delete(file);
            }
        }
        Files.delete(folder);
    }
}
