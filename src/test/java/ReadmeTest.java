import java.lang.reflect.Field;
import java.lang.reflect.Method;
import java.lang.reflect.Modifier;
import java.net.URL;
import java.net.URLClassLoader;
import java.nio.file.Files;
import java.nio.file.Path;
import java.util.ArrayList;
import java.util.Comparator;
import java.util.List;
import java.util.Set;
import java.util.TreeSet;
import java.util.regex.Matcher;
import java.util.regex.Pattern;
import java.util.stream.Stream;
import javax.tools.ToolProvider;

/** Whether README.md says what is so: its example is compiled and asked, and what it names is there. */
public final class ReadmeTest {
    private static final Due DUE = new Due("ReadmeTest");
    private static final String MADE = "BoatsOfPaper x = new BoatsOfPaper();";
    private static final Pattern ASKED = Pattern.compile("(?:int (\\w+) = )?(x\\.(\\w+)\\(.*\\)); *// (-?\\d+|[A-Z]+): .*");

    public static void main(String[] args) throws Exception {
        String page = Files.readString(Path.of("README.md"));
        example(page);
        names(page);
        tests(page);
        DUE.end();
    }

    /** Each line of Java on the page, but for those that only comment. */
    private static List<String> lines(String page) {
        List<String> lines = new ArrayList<>();
        Matcher block = Pattern.compile("(?s)```java\n(.*?)```").matcher(page);
        while (block.find()) {
            lines.addAll(block.group(1).lines().filter(line -> !line.isBlank() && !line.startsWith("// ")).toList());
        }
        return lines;
    }

    private static void example(String page) throws Exception {
        List<String> calls = new ArrayList<>();
        List<Long> due = new ArrayList<>();
        Set<String> shown = new TreeSet<>();
        StringBuilder body = new StringBuilder();
        for (String line : lines(page)) {
            Matcher call = ASKED.matcher(line);
            if (call.matches()) {
                String variable = call.group(1);
                body.append(variable == null ? "" : "int " + variable + " = " + call.group(2) + ";\n");
                body.append("got.add((long) ").append(variable == null ? call.group(2) : variable).append(");\n");
                calls.add("README.md: " + call.group(2));
                due.add(number(call.group(4)));
                shown.add(call.group(3));
            } else {
                DUE.is("README.md names an answer: " + line, line.equals(MADE) ? 1 : 0, 1);
                body.append(line).append('\n');
            }
        }
        List<Long> got = answers(body.toString());
        DUE.is("answers of README.md's example", got.size(), due.size());
        for (int k = 0; k < got.size() && k < due.size(); k++) {
            DUE.is(calls.get(k), got.get(k), due.get(k));
        }
        for (Method method : face()) {
            DUE.is("the example shows " + method.getName(), shown.contains(method.getName()) ? 1 : 0, 1);
        }
    }

    private static long number(String told) throws Exception {
        return told.matches("[A-Z]+") ? BoatsOfPaper.class.getField(told).getInt(null) : Long.parseLong(told);
    }

    /** What the lines answer, compiled as they stand. */
    private static List<Long> answers(String body) throws Exception {
        Path folder = Files.createTempDirectory("readme");
        try {
            Path file = folder.resolve("ReadmeExample.java");
            Files.writeString(file, "public final class ReadmeExample {\npublic static void ask(java.util.List<Long> got) {\n" + body + "}\n}\n");
            int failed = ToolProvider.getSystemJavaCompiler().run(null, null, null, "-cp", System.getProperty("java.class.path"),
                "-d", folder.toString(), file.toString());
            DUE.is("README.md's example compiles", failed, 0);
            List<Long> got = new ArrayList<>();
            if (failed == 0) {
                try (URLClassLoader loader = new URLClassLoader(new URL[] {folder.toUri().toURL()})) {
                    loader.loadClass("ReadmeExample").getMethod("ask", List.class).invoke(null, got);
                }
            }
            return got;
        } finally {
            remove(folder);
        }
    }

    private static void remove(Path folder) throws Exception {
        try (Stream<Path> made = Files.walk(folder)) {
            for (Path one : made.sorted(Comparator.reverseOrder()).toList()) {
                Files.delete(one);
            }
        }
    }

    private static List<Method> face() {
        List<Method> face = new ArrayList<>();
        for (Method method : BoatsOfPaper.class.getDeclaredMethods()) {
            if (Modifier.isPublic(method.getModifiers())) {
                face.add(method);
            }
        }
        return face;
    }

    /** Each call has a row with as many arguments as it takes; each constant is told with its number. */
    private static void names(String page) throws Exception {
        for (Method method : face()) {
            String arguments = method.getParameterCount() == 0 ? "" : "\\w+" + ", \\w+".repeat(method.getParameterCount() - 1);
            Pattern row = Pattern.compile("(?m)^\\| `" + method.getName() + "\\(" + arguments + "\\)` \\| \\S.* \\|$");
            DUE.is("README.md says what " + method.getName() + " is for", row.matcher(page).find() ? 1 : 0, 1);
        }
        for (Field field : BoatsOfPaper.class.getFields()) {
            String row = "| `" + field.getName() + "` | " + field.getInt(null) + " |";
            String words = "`" + field.getName() + "`** (" + field.getInt(null) + ")";
            DUE.is("README.md tells " + field.getName(), page.contains(row) || page.contains(words) ? 1 : 0, 1);
        }
        DUE.is("README.md tells of the 512 calls", page.contains("512 calls") ? 1 : 0, 1);
        DUE.is("README.md tells how all tests are run", page.contains("\n.ci/run\n") ? 1 : 0, 1);
    }

    /** The table of tests has a row for each test of the project, and none besides. */
    private static void tests(String page) throws Exception {
        Set<String> told = new TreeSet<>();
        Matcher row = Pattern.compile("(?m)^\\| (\\w+Test) \\| \\S").matcher(page);
        while (row.find()) {
            told.add(row.group(1));
        }
        try (Stream<Path> files = Files.list(Path.of("src/test/java"))) {
            for (Path file : files.filter(f -> f.toString().endsWith("Test.java")).toList()) {
                String name = file.getFileName().toString().replace(".java", "");
                DUE.is("README.md has a row for " + name, told.remove(name) ? 1 : 0, 1);
            }
        }
        DUE.is("rows of README.md without a test: " + told, told.size(), 0);
    }
}
