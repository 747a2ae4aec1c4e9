import java.io.IOException;
import java.nio.file.Files;
import java.nio.file.Path;
import java.util.ArrayList;
import java.util.List;
import java.util.Set;
import java.util.TreeSet;
import java.util.regex.Matcher;
import java.util.regex.Pattern;
import java.util.stream.Stream;

/** README.md: each call of its Java blocks, in their order, answers what stands behind it; and it names all tests. */
public final class ReadmeTest {
    private static final Path README = Path.of("README.md");
    private static final Path TESTS = Path.of("src/test/java");
    private static final String MADE = "Lexirack x = new Lexirack();";
    private static final Pattern CALL = Pattern.compile("x\\.(\\w+)\\((.*)\\); +// ('.'|-?\\w+)(?:: .+)?");
    private static final Pattern ROW = Pattern.compile("\\| `(\\w+Test)` \\|.*");

    /** What a reader has to be told how to do. */
    private static final Set<String> TOLD = Set.of("type", "word", "board", "cell", "begin", "plays", "playAt", "playListed",
        "play", "challenge", "exchange", "pass", "isOver", "score");

    public static void main(String[] args) throws IOException {
        List<String> lines = Files.readAllLines(README);
        callAll(javaLines(lines));
        nameAll(lines);
        Check.end("ReadmeTest");
    }

    private static List<String> javaLines(List<String> lines) {
        List<String> java = new ArrayList<>();
        boolean isJava = false;
        for (String line : lines) {
            if (line.startsWith("```")) {
                isJava = line.equals("```java");
            } else if (isJava && !line.isBlank()) {
                java.add(line);
            }
        }
        return java;
    }

    private static void callAll(List<String> lines) {
        Check.due("the object is made first", true, !lines.isEmpty() && lines.get(0).startsWith(MADE));
        Subject x = new Subject(new Lexirack());
        Set<String> called = new TreeSet<>();
        for (String line : lines.subList(1, lines.size())) {
            Matcher call = CALL.matcher(line);
            Check.due(line + " is a call with its answer", true, call.matches());
            if (call.matches()) {
                called.add(call.group(1));
                Check.due(line, call.group(3), told(x.call(call.group(1), given(call.group(2)))));
            }
        }
        for (String name : TOLD) {
            Check.due(name + " is told of", true, called.contains(name));
        }
    }

    private static Object[] given(String text) {
        List<Object> given = new ArrayList<>();
        for (String each : text.isEmpty() ? new String[0] : text.split(", ")) {
            if (each.startsWith("'")) {
                given.add(each.charAt(1));
            } else if (each.equals("true") || each.equals("false")) {
                given.add(each.equals("true"));
            } else {
                given.add(Integer.valueOf(each));
            }
        }
        return given.toArray();
    }

    private static String told(Object answer) {
        if (answer instanceof Character) {
            return "'" + answer + "'";
        }
        if (answer instanceof String) {
            String exception = (String) answer;
            return exception.substring(exception.lastIndexOf('.') + 1);
        }
        return String.valueOf(answer);
    }

    private static void nameAll(List<String> lines) throws IOException {
        Set<String> named = new TreeSet<>();
        for (String line : lines) {
            Matcher row = ROW.matcher(line);
            if (row.matches()) {
                named.add(row.group(1));
            }
        }
        Set<String> due = new TreeSet<>();
        try (Stream<Path> files = Files.list(TESTS)) {
            files.map(file -> file.getFileName().toString()).filter(name -> name.endsWith("Test.java"))
                .forEach(name -> due.add(name.substring(0, name.length() - ".java".length())));
        }
        Check.due("the tests that README.md names", due, named);
    }
}
