import java.lang.reflect.Constructor;
import java.lang.reflect.Field;
import java.lang.reflect.Method;
import java.lang.reflect.Modifier;
import java.nio.file.Files;
import java.nio.file.Path;
import java.util.Arrays;
import java.util.List;
import java.util.Set;
import java.util.TreeSet;
import java.util.regex.Matcher;
import java.util.regex.Pattern;

/** What can be seen of ../shared/LANGUAGE.md: the face, the words of the source, and that no call makes an object. */
public final class RuleTest {
    private static final Due DUE = new Due("RuleTest");
    private static final String[] FACE = {"int write(int,long)", "int wipe()", "int fault()", "int gutter()",
        "int place(int,int)", "int mishap(int,int)", "int boat(int,int,int,int)", "int wax(int,int,int)",
        "int coin(int,int,int,int)", "int empty(int)", "int about(int,int)", "long deep(int,int,boolean)",
        "long corner(int,int,boolean)", "int under(int,int)", "int life(int)", "int bears(int,int,int)",
        "int rim(int,int)", "int orders(int)", "int order(int,int)", "int needs(int,int)", "int time(int,int)",
        "long far(int,int,boolean)", "long ended(int,int,int,boolean)", "long home(int,int,boolean)",
        "int first(int,int)", "int best(int)", "long whose(int,int,int,boolean)", "int likeliest(int,int)",
        "int rests(int,int)", "int split(int,int)", "int run(int,boolean)", "int unrun()", "long red(boolean)",
        "int keep(int)", "int again(int)", "int count(int)"};
    private static final String[] FORBIDDEN = {"throw", "throws", "try", "catch", "finally", "synchronized", "assert",
        "import", "package", "var", "yield", "native", "volatile", "transient", "super", "goto", "strictfp", "->", "::",
        "Exception", "Exact(", "System.", "Thread", "Object", "equals(", "hashCode", "toString"};

    public static void main(String[] args) throws Exception {
        face();
        constants();
        words();
        lengths();
        room();
        DUE.end();
    }

    private static void face() {
        Set<String> due = new TreeSet<>(Arrays.asList(FACE));
        Set<String> names = new TreeSet<>();
        Set<String> own = new TreeSet<>();
        for (Method method : BoatsOfPaper.class.getDeclaredMethods()) {
            String parameters = String.join(",", Arrays.stream(method.getParameterTypes()).map(Class::getSimpleName).toList());
            String told = method.getReturnType() + " " + method.getName() + "(" + parameters + ")";
            if (Modifier.isPrivate(method.getModifiers())) {
                own.add(method.getName());
                continue;
            }
            names.add(method.getName());
            DUE.is("the document has " + told, due.remove(told) ? 1 : 0, 1);
            DUE.is(told + " is public, not static", method.getModifiers(), Modifier.PUBLIC);
        }
        DUE.is("the class lacks " + due, due.size(), 0);
        own.retainAll(names);
        DUE.is("private methods with names of public ones: " + own, own.size(), 0);
        Constructor<?>[] made = BoatsOfPaper.class.getDeclaredConstructors();
        DUE.is("constructors", made.length, 1);
        DUE.is("the constructor is public", made[0].getModifiers(), Modifier.PUBLIC);
        DUE.is("its parameters", made[0].getParameterCount(), 0);
        DUE.is("the class is public and final", BoatsOfPaper.class.getModifiers(), Modifier.PUBLIC | Modifier.FINAL);
        for (Class<?> inside : BoatsOfPaper.class.getDeclaredClasses()) {
            int how = inside.getModifiers();
            DUE.is(inside + " is static", Modifier.isStatic(how) ? 1 : 0, 1);
            DUE.is(inside + " is public or protected", how & (Modifier.PUBLIC | Modifier.PROTECTED), 0);
            DUE.is(inside + " has at most twenty fields", inside.getDeclaredFields().length <= 20 ? 1 : 0, 1);
            ownNames(inside, names);
        }
        DUE.is("at most twelve classes", BoatsOfPaper.class.getDeclaredClasses().length + 1 <= 12 ? 1 : 0, 1);
    }

    private static void ownNames(Class<?> inside, Set<String> names) {
        for (Method method : inside.getDeclaredMethods()) {
            DUE.is(inside + " has a method with a public one's name, " + method.getName(),
                names.contains(method.getName()) ? 1 : 0, 0);
        }
    }

    private static void constants() throws Exception {
        List<String> due = List.of("UNKNOWN", "OUTSIDE", "STATE", "FULL", "NONE");
        int[] numbers = {-1, -2, -3, -4, -9};
        int found = 0;
        for (Field field : BoatsOfPaper.class.getDeclaredFields()) {
            int how = field.getModifiers();
            if (due.contains(field.getName())) {
                found++;
                DUE.is(field.getName() + " is a public constant", how, Modifier.PUBLIC | Modifier.STATIC | Modifier.FINAL);
                DUE.is(field.getName(), field.getInt(null), numbers[due.indexOf(field.getName())]);
            } else {
                DUE.is(field.getName() + " is private and final", how & ~Modifier.STATIC, Modifier.PRIVATE | Modifier.FINAL);
                DUE.is(field.getName() + " is static and no number", Modifier.isStatic(how) && field.getType() != int.class ? 1 : 0, 0);
            }
        }
        DUE.is("constants", found, 5);
    }

    private static String bareSource() throws Exception {
        String source = Files.readString(Path.of("src/main/java/BoatsOfPaper.java"));
        return source.replaceAll("(?s)/\\*.*?\\*/", " ").replaceAll("//[^\\n]*", "");
    }

    private static void words() throws Exception {
        String source = bareSource();
        for (String word : FORBIDDEN) {
            boolean isName = Character.isLetter(word.charAt(0)) && Character.isLetter(word.charAt(word.length() - 1));
            String pattern = isName ? "\\b" + word + "\\b" : Pattern.quote(word);
            DUE.is("the source has " + word, Pattern.compile(pattern).matcher(source).find() ? 1 : 0, 0);
        }
        Matcher signs = Pattern.compile("[^\\n\\x20-\\x7e]").matcher(source);
        DUE.is("signs beyond 127", signs.find() ? 1 : 0, 0);
        Matcher library = Pattern.compile("\\b(Math|Integer|Long|Arrays|String|StringBuilder|ArrayList|List)\\b(\\.\\w+)?").matcher(source);
        while (library.find()) {
            String what = library.group();
            boolean may = List.of("Math.min", "Math.max", "Math.abs", "Integer.bitCount").contains(what);
            DUE.is("the library's " + what, may ? 1 : 0, 1);
        }
        // objects are made in fields' initialisers and constructors alone
        Matcher made = Pattern.compile("(?m)^.*\\bnew\\b.*$").matcher(source);
        while (made.find()) {
            String line = made.group().trim();
            boolean may = line.matches("(private )?(final )?[\\w\\[\\]]+ \\w+ = new .*;") || line.matches("(slots|boats)\\[k\\] = new \\w+\\(\\);");
            DUE.is("made by: " + line, may ? 1 : 0, 1);
        }
    }

    /** Methods of sixty lines at most; a method begins with a line that ends in ") {" at the depth of members. */
    private static void lengths() throws Exception {
        int start = -1;
        String end = "";
        String[] lines = Files.readString(Path.of("src/main/java/BoatsOfPaper.java")).split("\n");
        for (int k = 0; k < lines.length; k++) {
            Matcher head = Pattern.compile("^(    |        )[a-z]\\S* .*\\) \\{$|^(    |        )[A-Z]\\w*\\(.*\\) \\{$").matcher(lines[k]);
            if (start < 0 && head.find() && !lines[k].matches("\\s*(if|for|while|switch)\\b.*")) {
                start = k;
                end = lines[k].replaceAll("\\S.*", "") + "}";
                DUE.is("parameters of " + lines[k].trim(), lines[k].split(",").length <= 7 ? 1 : 0, 1);
            } else if (start >= 0 && lines[k].equals(end)) {
                DUE.is("lines of " + lines[start].trim(), k - start + 1 <= 60 ? 1 : 0, 1);
                start = -1;
            }
        }
    }

    /** All calls of one run live in one room: what 512 of the dearest calls make is nothing. */
    private static void room() {
        com.sun.management.ThreadMXBean bean = (com.sun.management.ThreadMXBean) java.lang.management.ManagementFactory.getThreadMXBean();
        // the least of three rounds, as the machine may make things of its own while it warms up
        long made = Long.MAX_VALUE;
        for (int round = 0; round < 3; round++) {
            BoatsOfPaper x = new BoatsOfPaper();
            bean.getCurrentThreadAllocatedBytes();
            long before = bean.getCurrentThreadAllocatedBytes();
            long sum = 0;
            for (int k = 0; k < 12; k++) {
                sum += everyCall(x, k);
            }
            made = Math.min(made, bean.getCurrentThreadAllocatedBytes() - before);
            DUE.is("calls answer", sum == 0 ? 1 : 0, 0);
        }
        DUE.is("bytes made by calls", made, 0);
    }

    private static long everyCall(BoatsOfPaper x, int k) {
        int boat = k % 6;
        long sum = x.write(8, 0x4C443157L) + x.fault() + x.wipe() + x.write(5, 0x4C4C2F3131L) + x.gutter() + x.place(0, 0)
            + x.mishap(3, 2) + x.boat(20, 20, 9, 3) + x.wax(boat, 1, 9) + x.coin(boat, 1, 2, 3) + x.about(boat, 9)
            + x.deep(boat, 9, true) + x.corner(boat, 9, true) + x.under(boat, 9) + x.life(boat) + x.bears(boat, 1, 1)
            + x.rim(boat, 1) + x.orders(boat) + x.order(boat, 0) + x.needs(boat, 9) + x.time(boat, 0);
        sum += x.far(boat, 0, true) + x.ended(boat, 0, 0, true) + x.home(boat, 0, true) + x.first(boat, 0) + x.best(boat)
            + x.whose(0, 0, boat, true) + x.likeliest(0, 0) + x.rests(9, 1) + x.split(9, 1) + x.run(k, true)
            + x.red(true) + x.keep(0) + x.again(0) + x.count(2);
        if (k == 11) {
            sum += x.unrun() + x.empty(0);
        }
        return sum;
    }
}
