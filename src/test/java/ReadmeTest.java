import java.io.IOException;
import java.lang.reflect.InvocationTargetException;
import java.lang.reflect.Method;
import java.lang.reflect.Modifier;
import java.nio.file.Files;
import java.nio.file.Path;
import java.util.ArrayList;
import java.util.Arrays;
import java.util.List;
import java.util.Set;
import java.util.TreeSet;
import java.util.regex.Matcher;
import java.util.regex.Pattern;
import java.util.stream.Collectors;

/** What README.md shows of the class: each answer that stands behind a call, and what each call is refused by. */
public final class ReadmeTest {
    private static final String NEW_OBJECT = "ClaqueRow claque = new ClaqueRow();";
    private static final Pattern CALL
        = Pattern.compile("claque\\.(\\w+)\\(([^)]*)\\); +// (= |throws )([^: ]+)(: .+)?");
    private static final Pattern ROW = Pattern.compile("\\| `(\\w+)\\(([^)]*)\\)` \\| [^|]+ \\| ([^|]+) \\|");
    private static final Pattern EXCEPTION = Pattern.compile("`(\\w+Exception)`");

    public static void main(String[] args) throws IOException {
        List<String> lines = Files.readAllLines(Path.of("README.md"));
        Set<String> shown = shownCalls(lines);
        Check.due("README shows each call of the face", faceNames(), () -> shown);
        Set<String> rows = rowsOfTheTable(lines);
        Check.due("README's table has each call of the face", faceNames(), () -> rows);
        Check.due("README tells for how many calls", true, () -> String.join(" ", lines).contains("512 calls"));
        Check.end("ReadmeTest");
    }

    private static List<Method> face() {
        return Arrays.stream(ClaqueRow.class.getDeclaredMethods())
            .filter(method -> Modifier.isPublic(method.getModifiers())).collect(Collectors.toList());
    }

    private static Set<String> faceNames() {
        return face().stream().map(Method::getName).collect(Collectors.toCollection(TreeSet::new));
    }

    private static Method called(String name) {
        return face().stream().filter(method -> method.getName().equals(name)).findFirst().orElse(null);
    }

    /** Makes the calls in the blocks of Java, and answers which ones there were. */
    private static Set<String> shownCalls(List<String> lines) {
        Set<String> shown = new TreeSet<>();
        boolean inBlock = false;
        ClaqueRow claque = null;
        for (String line : lines) {
            if (line.startsWith("```")) {
                inBlock = line.equals("```java");
            } else if (inBlock && line.equals(NEW_OBJECT)) {
                claque = new ClaqueRow();
            } else if (inBlock) {
                Matcher call = CALL.matcher(line);
                boolean holds = call.matches() && claque != null && called(call.group(1)) != null;
                Check.due("README can be read: " + line, true, () -> holds);
                if (holds) {
                    shown.add(call.group(1));
                    makeCall(claque, call);
                }
            }
        }
        return shown;
    }

    private static void makeCall(ClaqueRow claque, Matcher call) {
        Method method = called(call.group(1));
        String due = call.group(3).equals("= ") ? call.group(4) : "throws " + call.group(4);
        Check.due("README: " + call.group(), due, () -> answer(claque, method, arguments(call.group(2))));
    }

    private static Object[] arguments(String text) {
        List<Object> arguments = new ArrayList<>();
        for (String word : text.isEmpty() ? new String[0] : text.split(", ")) {
            if (word.startsWith("'")) {
                arguments.add(word.charAt(1));
            } else {
                arguments.add(Integer.valueOf(word));
            }
        }
        return arguments.toArray();
    }

    private static String answer(ClaqueRow claque, Method method, Object[] arguments) {
        try {
            Object answer = method.invoke(claque, arguments);
            return answer instanceof Character ? "'" + answer + "'" : String.valueOf(answer);
        } catch (InvocationTargetException e) {
            Object thrown = Check.thrown(e.getCause());
            return "throws " + (thrown instanceof Class ? ((Class<?>) thrown).getSimpleName() : thrown);
        } catch (IllegalAccessException e) {
            return e.toString();
        }
    }

    /** Compares each row of the table with the face, and answers which calls have one. */
    private static Set<String> rowsOfTheTable(List<String> lines) {
        Set<String> rows = new TreeSet<>();
        for (String line : lines) {
            Matcher row = ROW.matcher(line);
            if (row.matches()) {
                rows.add(row.group(1));
                compareRow(row);
            }
        }
        return rows;
    }

    private static void compareRow(Matcher row) {
        String what = "README's row of " + row.group(1);
        Method method = called(row.group(1));
        Check.due(what + ": there is such a call", true, () -> method != null);
        if (method != null) {
            int parameters = row.group(2).isEmpty() ? 0 : row.group(2).split(", ").length;
            Check.due(what + ": its parameters", method.getParameterCount(), () -> parameters);
            List<String> due = Arrays.stream(method.getExceptionTypes()).map(Class::getSimpleName)
                .collect(Collectors.toList());
            List<String> told = EXCEPTION.matcher(row.group(3)).results().map(found -> found.group(1))
                .collect(Collectors.toList());
            Check.due(what + ": what it is refused by, in this order", due, () -> told);
            Check.due(what + ": or by nothing", due.isEmpty(), () -> row.group(3).equals("nothing"));
        }
    }
}
