import java.io.IOException;
import java.lang.reflect.Constructor;
import java.lang.reflect.Field;
import java.lang.reflect.Member;
import java.lang.reflect.Method;
import java.lang.reflect.Modifier;
import java.nio.file.Files;
import java.nio.file.Path;
import java.util.Arrays;
import java.util.List;
import java.util.Set;
import java.util.TreeSet;
import java.util.stream.Collectors;

/** The public face, and those rules of LANGUAGE.md that can be seen from outside. */
public final class FaceTest {
    private static final String FACE = """
        int newHouse(int, int) throws IllegalArgumentException
        char seatPayer(int, int, int) throws IndexOutOfBoundsException, IllegalArgumentException
        char seatRival(int, int) throws IndexOutOfBoundsException
        char seatHand(int, int, int) throws IndexOutOfBoundsException, UnsupportedOperationException
        char clearSeat(int, int) throws IndexOutOfBoundsException
        char seatAt(int, int) throws IndexOutOfBoundsException
        int addHand(char, int, int, int) throws IllegalArgumentException, IllegalStateException
        boolean isSeated(int) throws IndexOutOfBoundsException
        int addSinger(int, int) throws IllegalArgumentException, IllegalStateException
        int addCue(int, char, int, int, int) throws IndexOutOfBoundsException, IllegalArgumentException, UnsupportedOperationException, IllegalStateException
        int setLevel(int) throws IllegalArgumentException
        int run(int) throws IllegalArgumentException, IllegalStateException
        int noiseAt(int, int) throws IndexOutOfBoundsException
        int noise()
        int joining()
        int hisses()
        int tiredness(int, int) throws IndexOutOfBoundsException, UnsupportedOperationException
        int callsOf(int) throws IndexOutOfBoundsException
        int calls()
        int suspicions()
        boolean areFoundOut()
        int endEvening() throws IllegalStateException
        int pay(int, int) throws IndexOutOfBoundsException, IllegalArgumentException, UnsupportedOperationException
        int owed(int) throws IndexOutOfBoundsException
        int purse()
        int share() throws UnsupportedOperationException
        int moneyOf(int) throws IndexOutOfBoundsException
        int chiefs()
        int planCost(int) throws IllegalArgumentException, NoSuchElementException
        boolean isPlanned(int, int) throws IllegalArgumentException, IndexOutOfBoundsException, NoSuchElementException
        long checksum()
        float joiningShare() throws ArithmeticException
        double meanNoise() throws ArithmeticException
        boolean isSound()
        """;

    private static final List<String> RULED_OUT = List.of("->", "::", "try {", "catch (", "finally", "synchronized",
        "assert ", "static {", "protected ", ".equals(", ".hashCode(", ".toString(", "Exact(", "System.", "package ",
        "var ", "enum ", "sealed ", "@");

    public static void main(String[] args) throws IOException {
        theClass();
        theCalls();
        nothingElseIsSeen();
        classesInside();
        String source = Files.readString(Path.of("src/main/java/ClaqueRow.java"));
        imports(source);
        words(source);
        methodsAreShort(source);
        Check.end("FaceTest");
    }

    private static void theClass() {
        int modifiers = ClaqueRow.class.getModifiers();
        Check.due("public and final", true, () -> Modifier.isPublic(modifiers) && Modifier.isFinal(modifiers));
        Check.due("no package", "", () -> ClaqueRow.class.getPackageName());
        Constructor<?>[] constructors = ClaqueRow.class.getDeclaredConstructors();
        Check.due("one constructor", 1, () -> constructors.length);
        Check.due("the constructor", "public ClaqueRow()", () -> constructors[0].toString());
    }

    private static void theCalls() {
        Set<String> calls = new TreeSet<>();
        for (Method method : ClaqueRow.class.getDeclaredMethods()) {
            if (!Modifier.isPrivate(method.getModifiers())) {
                Check.due(method.getName() + " is public only", Modifier.PUBLIC, method::getModifiers);
                calls.add(signature(method));
            }
        }
        Check.due("the face", new TreeSet<>(FACE.lines().collect(Collectors.toList())), () -> calls);
    }

    private static String signature(Method method) {
        String types = Arrays.stream(method.getParameterTypes()).map(Class::getSimpleName)
            .collect(Collectors.joining(", "));
        String thrown = Arrays.stream(method.getExceptionTypes()).map(Class::getSimpleName)
            .collect(Collectors.joining(", "));
        return method.getReturnType() + " " + method.getName() + "(" + types + ")"
            + (thrown.isEmpty() ? "" : " throws " + thrown);
    }

    private static Set<String> names() {
        return FACE.lines().map(line -> line.substring(line.indexOf(' ') + 1, line.indexOf('(')))
            .collect(Collectors.toSet());
    }

    private static void nothingElseIsSeen() {
        for (Field field : ClaqueRow.class.getDeclaredFields()) {
            Check.due("field " + field.getName() + " is private", true,
                () -> Modifier.isPrivate(field.getModifiers()));
            constantIfStatic(field);
        }
        for (Method method : ClaqueRow.class.getDeclaredMethods()) {
            if (Modifier.isPrivate(method.getModifiers())) {
                Check.due(method.getName() + " bears no public name", false,
                    () -> names().contains(method.getName()));
            }
        }
    }

    private static void constantIfStatic(Member field) {
        if (Modifier.isStatic(field.getModifiers())) {
            Check.due("static " + field.getName() + " is final", true, () -> Modifier.isFinal(field.getModifiers()));
        }
    }

    private static void classesInside() {
        Class<?>[] inside = ClaqueRow.class.getDeclaredClasses();
        Check.due("twelve classes at most", true, () -> inside.length < 12);
        for (Class<?> one : inside) {
            String name = one.getSimpleName();
            Check.due(name + " is private and static", true,
                () -> Modifier.isPrivate(one.getModifiers()) && Modifier.isStatic(one.getModifiers()));
            Check.due(name + " has twenty fields at most", true, () -> one.getDeclaredFields().length <= 20);
            Arrays.stream(one.getDeclaredFields()).forEach(FaceTest::constantIfStatic);
            for (Method method : one.getDeclaredMethods()) {
                Check.due(name + "." + method.getName() + " bears no public name", false,
                    () -> names().contains(method.getName()));
                Check.due(name + "." + method.getName() + " takes seven at most", true,
                    () -> method.getParameterCount() <= 7);
            }
        }
    }

    private static void imports(String source) {
        Set<String> allowed = Set.of("import java.util.ArrayList;", "import java.util.NoSuchElementException;");
        source.lines().filter(line -> line.startsWith("import "))
            .forEach(line -> Check.due(line, true, () -> allowed.contains(line)));
    }

    private static void words(String source) {
        for (String word : RULED_OUT) {
            Check.due("no '" + word + "' in the source", false, () -> source.contains(word));
        }
        Check.due("signs of 1 to 127", true, () -> source.chars().allMatch(sign -> sign >= 1 && sign <= 127));
    }

    private static void methodsAreShort(String source) {
        int begin = 0;
        List<String> lines = source.lines().collect(Collectors.toList());
        for (int i = 0; i < lines.size(); i++) {
            if (lines.get(i).matches(" {4,8}[A-Za-z].*[({,]") && lines.get(i).contains("(")) {
                begin = i;
            }
            if (lines.get(i).matches(" {4}(    )?}")) {
                int length = i - begin;
                Check.due("the method of line " + (begin + 1) + " is short", true, () -> length <= 60);
            }
        }
    }
}
