import java.io.IOException;
import java.lang.reflect.Constructor;
import java.lang.reflect.Field;
import java.lang.reflect.Method;
import java.lang.reflect.Modifier;
import java.nio.file.Files;
import java.nio.file.Path;
import java.util.Set;
import java.util.TreeSet;

/** The face of the class is that of the document, and nothing more of it can be seen. */
public final class FaceTest {
    private static final Path DOCUMENT = Path.of("../shared/DOC.md");
    private static final String FACE = """
        int type(char) throws IllegalArgumentException, IllegalStateException
        int wipe()
        int word(int, int) throws IllegalArgumentException, IllegalStateException
        int strike() throws NoSuchElementException
        int edition(int) throws IllegalArgumentException
        boolean isWord()
        int words()
        int nodes()
        int hooks(boolean)
        int anagrams(boolean)
        int letter(char, int, int) throws IllegalArgumentException, IllegalStateException
        int weight(char, int) throws IllegalArgumentException
        int leave()
        int board(int, int) throws IllegalArgumentException, IllegalStateException
        char cell(int, int, char) throws IndexOutOfBoundsException, IllegalArgumentException, IllegalStateException
        int start(int, int) throws IndexOutOfBoundsException, IllegalStateException
        int begin(int, char, int) throws IllegalArgumentException
        char tile(int, int) throws IndexOutOfBoundsException
        int rack(int, char) throws IllegalStateException, IllegalArgumentException
        int bag() throws IllegalStateException
        int mover() throws IllegalStateException
        int plays() throws IllegalStateException
        int playAt(int, char) throws IllegalStateException, NoSuchElementException, IllegalArgumentException
        char playTile(int, int) throws IllegalStateException, NoSuchElementException
        int bestByLeave() throws IllegalStateException, NoSuchElementException
        int play(int, int, boolean) throws IllegalStateException, IndexOutOfBoundsException, UnsupportedOperationException
        int playListed(int) throws IllegalStateException, NoSuchElementException
        boolean challenge() throws IllegalStateException, UnsupportedOperationException
        int exchange() throws IllegalStateException, UnsupportedOperationException
        int pass() throws IllegalStateException
        boolean isOver() throws IllegalStateException
        int score(int) throws IllegalStateException, IllegalArgumentException
        int spend(int, int) throws IllegalStateException, IllegalArgumentException
        int time(int) throws IllegalArgumentException
        int value() throws IllegalStateException, UnsupportedOperationException
        int solved() throws IllegalStateException, UnsupportedOperationException
        long holds(char, boolean) throws IllegalStateException, IllegalArgumentException
        int turns() throws IllegalStateException
        int turnAt(int, char) throws IllegalStateException, IndexOutOfBoundsException, IllegalArgumentException
        int sheet(int, int) throws IllegalStateException, IndexOutOfBoundsException, IllegalArgumentException
        int fault() throws IllegalStateException, NoSuchElementException
        int sheetSum(int) throws IllegalStateException, IllegalArgumentException
        int sit(int, int) throws IllegalArgumentException
        int rate() throws IllegalStateException
        int rating(int) throws IllegalArgumentException
        long checksum() throws IllegalStateException
        float covered() throws IllegalStateException, ArithmeticException
        double meanPoints() throws IllegalStateException, ArithmeticException
        boolean isSound()
        """;

    private static int wrong = 0;

    public static void main(String[] args) throws IOException {
        Set<String> due = new TreeSet<>(Set.of(FACE.strip().split("\n")));
        Set<String> document = faceOfDocument();
        check(due.equals(document), "the methods of the document are " + document + ", looked for are " + due);
        Set<String> got = new TreeSet<>();
        for (Method method : Lexirack.class.getDeclaredMethods()) {
            if (!Modifier.isPrivate(method.getModifiers())) {
                check(Modifier.isPublic(method.getModifiers()), "public: " + method);
                check(!Modifier.isStatic(method.getModifiers()), "of an object: " + method);
                got.add(told(method));
            }
        }
        check(due.equals(got), "the methods are " + got + ", due are " + due);
        Constructor<?>[] constructors = Lexirack.class.getDeclaredConstructors();
        check(constructors.length == 1 && Modifier.isPublic(constructors[0].getModifiers()), "one constructor");
        check(constructors[0].getParameterCount() == 0, "a constructor without parameters");
        check(Modifier.isFinal(Lexirack.class.getModifiers()), "a final class");
        checkHidden();
        System.out.println(wrong == 0 ? "FaceTest: all as due" : "FaceTest: " + wrong + " not as due");
        if (wrong != 0) {
            System.exit(1);
        }
    }

    /** The lines of its Java block that end with a semicolon, but for the import and the constructor. */
    private static Set<String> faceOfDocument() throws IOException {
        Set<String> face = new TreeSet<>();
        for (String line : Files.readAllLines(DOCUMENT)) {
            if (line.startsWith("    public ") && line.endsWith(";") && !line.contains(" Lexirack(")) {
                face.add(line.strip().replaceAll("^public |;$", "").replaceAll("(int|boolean|char) \\w+(?=[,)])", "$1"));
            }
        }
        return face;
    }

    private static void checkHidden() {
        for (Field field : Lexirack.class.getDeclaredFields()) {
            check(Modifier.isPrivate(field.getModifiers()), "private: " + field);
        }
        Set<String> faceNames = new TreeSet<>();
        for (Method method : Lexirack.class.getMethods()) {
            faceNames.add(method.getName());
        }
        for (Method method : Lexirack.class.getDeclaredMethods()) {
            if (Modifier.isPrivate(method.getModifiers())) {
                check(!faceNames.contains(method.getName()), "a name of its own: " + method);
            }
        }
        for (Class<?> inner : Lexirack.class.getDeclaredClasses()) {
            check(Modifier.isStatic(inner.getModifiers()) && !Modifier.isPublic(inner.getModifiers()),
                "a hidden static class: " + inner);
            for (Method method : inner.getDeclaredMethods()) {
                check(!faceNames.contains(method.getName()), "a name of its own: " + method);
            }
        }
    }

    private static String told(Method method) {
        StringBuilder text = new StringBuilder(method.getReturnType() + " " + method.getName() + "(");
        for (Class<?> kind : method.getParameterTypes()) {
            text.append(text.charAt(text.length() - 1) == '(' ? "" : ", ").append(kind);
        }
        text.append(")");
        Class<?>[] thrown = method.getExceptionTypes();
        for (int k = 0; k < thrown.length; k++) {
            text.append(k == 0 ? " throws " : ", ").append(thrown[k].getSimpleName());
        }
        return text.toString();
    }

    private static void check(boolean holds, String what) {
        if (!holds) {
            wrong++;
            System.out.println("not as due: " + what);
        }
    }
}
