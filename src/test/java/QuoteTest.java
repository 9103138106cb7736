import java.nio.file.Files;
import java.nio.file.Path;
import java.util.ArrayList;
import java.util.Arrays;
import java.util.LinkedHashMap;
import java.util.List;
import java.util.Map;
import java.util.regex.Matcher;
import java.util.regex.Pattern;
import java.util.stream.Stream;

/** Whether each sentence of Terms and of the promises has a test of its own: the BoundsTests say by quotes which they stand for. */
public final class QuoteTest {
    private static final Due DUE = new Due("QuoteTest");
    private static final Path DOC = Path.of("../shared/DOC.md");
    private static final Pattern TEST = Pattern.compile("(?s)/\\*\\*((?:(?!\\*/).)*)\\*/\\s*private static void (\\w+)\\(");
    private static final Pattern QUOTE = Pattern.compile("(What it is|Terms|Promise \\d+): \"([^\"]+)\"");

    public static void main(String[] args) throws Exception {
        Map<String, String> sections = sections();
        Map<String, boolean[]> quoted = new LinkedHashMap<>();
        sections.forEach((name, text) -> quoted.put(name, new boolean[text.length()]));
        try (Stream<Path> files = Files.list(Path.of("src/test/java"))) {
            for (Path file : files.filter(f -> f.toString().endsWith("BoundsTest.java")).sorted().toList()) {
                readTests(file, sections, quoted);
            }
        }
        quoted.remove("What it is");
        DUE.is("sections", quoted.size(), 38);
        quoted.forEach((name, marks) -> all(name, sections.get(name), marks));
        DUE.end();
    }

    /** Each section's text: Terms and the promises without their headings, and without what the interface says ahead of calls. */
    private static Map<String, String> sections() throws Exception {
        Map<String, String> sections = new LinkedHashMap<>();
        for (String part : Files.readString(DOC).split("(?m)^## ")) {
            String name = part.split("[:\\n]")[0].trim();
            int body = part.indexOf('\n');
            if (body < 0 || !name.matches("What it is|Terms|Promise \\d+")) {
                continue;
            }
            List<String> kept = new ArrayList<>();
            for (String line : part.substring(body).split("\n")) {
                if (!line.startsWith("Ahead of the calls") && !line.startsWith("```")) {
                    kept.add(line.replaceAll("^`[^`]*`:", "").replaceAll("^==== \\d ", ""));
                }
            }
            sections.put(name, plain(String.join(" ", kept)));
        }
        return sections;
    }

    private static String plain(String text) {
        return text.replaceAll("\\s+", " ").trim();
    }

    private static void readTests(Path file, Map<String, String> sections, Map<String, boolean[]> quoted) throws Exception {
        String source = Files.readString(file);
        Matcher test = TEST.matcher(source);
        int tests = 0;
        while (test.find()) {
            String name = file.getFileName() + " " + test.group(2);
            Matcher quote = QUOTE.matcher(plain(test.group(1).replaceAll("(?m)^\\s*\\* ?", " ")));
            int quotes = 0;
            while (quote.find()) {
                quotes++;
                String text = sections.getOrDefault(quote.group(1), "");
                DUE.is(name + ": the document says " + quote.group(), mark(text, quote.group(2), quoted.get(quote.group(1))), 1);
            }
            DUE.is(name + " says by a quote what it stands for", quotes > 0 ? 1 : 0, 1);
            DUE.is(name + " is run", source.contains("        " + test.group(2) + "();\n") ? 1 : 0, 1);
            tests++;
        }
        DUE.is(file + " has tests", tests > 0 ? 1 : 0, 1);
    }

    /** 1 if the quote stands there. */
    private static int mark(String text, String quote, boolean[] marks) {
        int found = 0;
        for (int at = text.indexOf(quote); at >= 0; at = text.indexOf(quote, at + 1)) {
            Arrays.fill(marks, at, at + quote.length(), true);
            found = 1;
        }
        return found;
    }

    private static void all(String name, String text, boolean[] marks) {
        StringBuilder missing = new StringBuilder();
        for (int k = 0; k < marks.length; k++) {
            missing.append(marks[k] || !Character.isLetterOrDigit(text.charAt(k)) ? ' ' : text.charAt(k));
        }
        String words = plain(missing.toString());
        DUE.is(name + ": no test says that it stands for \"" + words + "\"", words.length(), 0);
    }
}
