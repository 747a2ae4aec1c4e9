import java.io.IOException;
import java.io.PrintWriter;
import java.io.StringWriter;
import java.nio.file.Files;
import java.nio.file.Path;
import java.util.ArrayList;
import java.util.HashMap;
import java.util.HashSet;
import java.util.List;
import java.util.Map;
import java.util.Set;
import java.util.TreeMap;
import java.util.TreeSet;
import java.util.regex.Matcher;
import java.util.regex.Pattern;
import java.util.spi.ToolProvider;

/** What of ../shared/LANGUAGE.md can be seen in the compiled class and in its text. */
public final class LanguageTest {
    private static final Path SOURCE = Path.of("src/main/java/Lexirack.java");
    private static final int MOST_DEEP = 8;
    private static final int MOST_CLASSES = 12;
    private static final int MOST_FIELDS = 20;
    private static final int MOST_LINES = 60;
    private static final int MOST_PARAMETERS = 7;
    private static final Set<String> THROWN = Set.of("IllegalStateException", "IllegalArgumentException",
        "IndexOutOfBoundsException", "ArithmeticException", "UnsupportedOperationException", "NoSuchElementException");
    private static final Pattern LIBRARY = Pattern.compile("java/lang/Object\\.\"<init>\".*"
        + "|java/lang/Math\\.(max|min|abs|floorDiv|floorMod):\\([IJ]+\\)[IJ]"
        + "|java/lang/(Integer|Long)\\.(compare|bitCount|max|min|numberOfTrailingZeros):\\([IJ]+\\)[IJ]"
        + "|java/lang/System\\.arraycopy:.*"
        + "|java/util/Arrays\\.(copyOf|copyOfRange|fill):\\(\\[[IJSBCDF].*"
        + "|java/lang/(IllegalStateException|IllegalArgumentException|IndexOutOfBoundsException|ArithmeticException"
        + "|UnsupportedOperationException)\\.\"<init>\":\\(Ljava/lang/String;\\)V"
        + "|java/util/NoSuchElementException\\.\"<init>\":\\(Ljava/lang/String;\\)V");

    private static int wrong = 0;
    private static final Map<String, Set<String>> calls = new TreeMap<>();

    public static void main(String[] args) throws IOException {
        List<String> classes = new ArrayList<>();
        for (Class<?> each : Lexirack.class.getDeclaredClasses()) {
            classes.add(each.getName());
        }
        classes.add("Lexirack");
        check(classes.size() <= MOST_CLASSES, "classes: " + classes.size());
        for (String each : classes) {
            readClass(each);
        }
        checkDepth();
        checkText(Files.readAllLines(SOURCE));
        System.out.println(wrong == 0 ? "LanguageTest: all as due" : "LanguageTest: " + wrong + " not as due");
        if (wrong != 0) {
            System.exit(1);
        }
    }

    private static void readClass(String name) {
        StringWriter out = new StringWriter();
        ToolProvider javap = ToolProvider.findFirst("javap").orElseThrow();
        String path = System.getProperty("java.class.path");
        int code = javap.run(new PrintWriter(out), new PrintWriter(out), "-p", "-c", "-s", "-cp", path, name);
        check(code == 0, "javap of " + name);
        String owner = name;
        String method = null;
        String head = "";
        int fields = 0;
        for (String line : out.toString().split("\n")) {
            if (line.matches("  \\S.*;")) {
                head = line.strip();
            }
            if (line.startsWith("    descriptor: ")) {
                String descriptor = line.substring(16);
                if (descriptor.startsWith("(")) {
                    String own = head.substring(0, head.indexOf('('));
                    own = own.substring(own.lastIndexOf(' ') + 1);
                    method = owner + "." + (own.equals(owner.replace('/', '.')) ? "\"<init>\"" : own) + ":" + descriptor;
                    calls.put(method, new TreeSet<>());
                    checkMethod(head, method);
                } else if (!head.contains("static final")) {
                    fields++;
                    check(!head.contains("static "), "a static field that is not final: " + head);
                }
            }
            readInstruction(owner, method, line);
        }
        check(fields <= MOST_FIELDS, name + " has " + fields + " fields");
    }

    private static void checkMethod(String head, String method) {
        String parameters = head.substring(head.indexOf('(') + 1, head.indexOf(')'));
        int many = parameters.isEmpty() ? 0 : parameters.split(",").length;
        check(many <= MOST_PARAMETERS, "parameters: " + method);
        check(!head.contains("synchronized") && !head.contains("native"), method);
    }

    private static void readInstruction(String owner, String method, String line) {
        Matcher call = Pattern.compile(" +\\d+: invoke(\\w+) .*// (?:Interface)?Method (.*)").matcher(line);
        if (call.matches()) {
            String called = call.group(2);
            if (called.indexOf('.') < 0 || called.indexOf('.') > called.indexOf(':')) {
                called = owner + "." + called;
            }
            if (called.startsWith("Lexirack")) {
                calls.get(method).add(called);
            } else {
                check(LIBRARY.matcher(called).matches(), method + " calls " + called);
                calls.get(method).add(called);
                calls.putIfAbsent(called, new TreeSet<>());
            }
        }
        boolean isRefused = line.matches(" +\\d+: (invokedynamic|monitorenter|monitorexit|jsr|multianewarray).*");
        check(!isRefused, method + ": " + line.strip());
        check(!line.strip().startsWith("Exception table"), method + " catches");
    }

    /** The longest way of calls, those that call one another counted as one. */
    private static void checkDepth() {
        Map<String, Set<String>> reach = new HashMap<>();
        for (String each : calls.keySet()) {
            Set<String> seen = new HashSet<>();
            List<String> open = new ArrayList<>(calls.get(each));
            while (!open.isEmpty()) {
                String next = open.remove(open.size() - 1);
                check(calls.containsKey(next), "known: " + next);
                if (seen.add(next)) {
                    open.addAll(calls.getOrDefault(next, Set.of()));
                }
            }
            reach.put(each, seen);
        }
        Map<String, List<String>> longest = new HashMap<>();
        List<String> most = new ArrayList<>();
        for (String each : calls.keySet()) {
            List<String> way = longestFrom(each, reach, longest);
            if (way.size() > most.size()) {
                most = way;
            }
        }
        check(most.size() <= MOST_DEEP, "calls go " + most.size() + " deep: " + most);
        System.out.println("LanguageTest: calls go " + most.size() + " deep");
    }

    private static List<String> longestFrom(String from, Map<String, Set<String>> reach, Map<String, List<String>> longest) {
        List<String> known = longest.get(from);
        if (known != null) {
            return known;
        }
        List<String> best = new ArrayList<>();
        Set<String> circle = new TreeSet<>();
        circle.add(from);
        for (String other : reach.get(from)) {
            if (reach.get(other).contains(from)) {
                circle.add(other);
            }
        }
        for (String member : circle) {
            for (String next : calls.get(member)) {
                if (!circle.contains(next)) {
                    List<String> way = longestFrom(next, reach, longest);
                    if (way.size() > best.size()) {
                        best = way;
                    }
                }
            }
        }
        List<String> way = new ArrayList<>();
        way.add(from);
        way.addAll(best);
        longest.put(from, way);
        return way;
    }

    private static void checkText(List<String> lines) {
        int opened = -1;
        for (int k = 0; k < lines.size(); k++) {
            String line = lines.get(k);
            check(line.chars().allMatch(sign -> sign >= 32 && sign < 127), "signs in line " + (k + 1));
            check(!line.matches(".*\\b(try|catch|finally|assert|lambda|instanceof|Object|float\\[\\])\\b.*")
                || line.strip().startsWith("*") || line.strip().startsWith("/"), "line " + (k + 1) + ": " + line);
            check(!line.contains("->") && !line.contains("::"), "line " + (k + 1) + ": " + line);
            Matcher thrown = Pattern.compile(".*\\bthrow\\b(.*)").matcher(line);
            if (thrown.matches() && !line.strip().startsWith("/") && !line.strip().startsWith("*")) {
                Matcher made = Pattern.compile(" new (\\w+)\\((\"[^\"]*\")?\\);").matcher(thrown.group(1));
                check(made.matches() && THROWN.contains(made.group(1)), "line " + (k + 1) + ": " + line);
            }
            if (line.matches(" +(public |private |static |final )*[\\w\\[\\]<>]+ ?\\w*\\(.*\\{") && !line.matches(" +(if|for|while|switch|else|do)\\b.*")) {
                opened = k;
            }
            if (opened >= 0 && line.equals(lines.get(opened).replaceAll("\\S.*", "") + "}")) {
                check(k - opened < MOST_LINES, "a method of " + (k - opened + 1) + " lines: " + lines.get(opened));
                opened = -1;
            }
        }
    }

    private static void check(boolean holds, String what) {
        if (!holds) {
            wrong++;
            System.out.println("not as due: " + what);
        }
    }
}
