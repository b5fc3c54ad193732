import java.io.IOException;
import java.lang.reflect.InvocationTargetException;
import java.lang.reflect.Method;
import java.nio.file.Files;
import java.nio.file.Path;
import java.util.ArrayList;
import java.util.List;
import java.util.Map;
import java.util.TreeMap;
import java.util.regex.Matcher;
import java.util.regex.Pattern;

/** README.md, which is looked for in the folder that .ci/run works in: its run of calls, and its tables of them. */
public final class ReadmeTest {
    private static final Check CHECK = new Check("ReadmeTest");
    private static final String RUN_BEGINS = "```java";
    private static final String RUN_ENDS = "```";
    private static final Pattern MAKES = Pattern.compile("ForkHall hall = new ForkHall\\(\\);");
    private static final Pattern CALL = Pattern.compile("hall\\.(\\w+)\\(([0-9, -]*)\\); +// (.+)");
    private static final Pattern ROW = Pattern.compile("\\| `(\\w+)\\((.*)\\)` \\| (.+) \\|(.*)\\|");
    private static final Pattern EXCEPTION = Pattern.compile("\\w+Exception");

    public static void main(String[] args) throws IOException {
        List<String> lines = Files.readAllLines(Path.of("README.md"));
        Map<String, Method> face = face();
        shortRun(lines, face);
        tables(lines, face);
        CHECK.end();
    }

    private static Map<String, Method> face() {
        Map<String, Method> face = new TreeMap<>();
        for (Method method : ForkHall.class.getMethods()) {
            if (method.getDeclaringClass() == ForkHall.class) {
                face.put(method.getName(), method);
            }
        }
        return face;
    }

    private static List<String> linesOfTheRun(List<String> lines) {
        int begin = lines.indexOf(RUN_BEGINS) + 1;
        List<String> rest = lines.subList(begin, lines.size());
        return rest.subList(0, Math.max(0, rest.indexOf(RUN_ENDS)));
    }

    /** Each line of the run makes the object or is a call with what it answers. */
    private static void shortRun(List<String> lines, Map<String, Method> face) {
        List<String> run = linesOfTheRun(lines);
        CHECK.isTrue("the run has calls", run.size() > 20);
        CHECK.isTrue("its first line makes the object", !run.isEmpty() && MAKES.matcher(run.get(0)).matches());
        ForkHall hall = new ForkHall();
        for (String line : run.subList(Math.min(1, run.size()), run.size())) {
            Matcher call = CALL.matcher(line);
            boolean known = call.matches() && face.containsKey(call.group(1));
            CHECK.isTrue("a call: " + line, known);
            if (known) {
                CHECK.same(line, told(hall, face.get(call.group(1)), call.group(2)), call.group(3));
            }
        }
    }

    private static String told(ForkHall hall, Method method, String arguments) {
        String[] numbers = arguments.isEmpty() ? new String[0] : arguments.split(", ");
        if (numbers.length != method.getParameterCount()) {
            return "another number of arguments";
        }
        Object[] taken = new Object[numbers.length];
        for (int i = 0; i < taken.length; i++) {
            taken[i] = Integer.valueOf(numbers[i]);
        }
        try {
            return String.valueOf(method.invoke(hall, taken));
        } catch (InvocationTargetException e) {
            return "throws " + e.getCause().getClass().getSimpleName();
        } catch (IllegalAccessException e) {
            throw new IllegalStateException(e);
        }
    }

    /** Each call of the face has one row, with its arguments and, in their order, its exceptions. */
    private static void tables(List<String> lines, Map<String, Method> face) {
        List<String> told = new ArrayList<>();
        for (String line : lines) {
            Matcher row = ROW.matcher(line);
            if (row.matches()) {
                told.add(row.group(1));
                row(row, face.get(row.group(1)));
            }
        }
        told.sort(null);
        CHECK.same("the calls of the tables", told.toString(), face.keySet().toString());
    }

    private static void row(Matcher row, Method method) {
        CHECK.isTrue(row.group(1) + " is a call of the face", method != null);
        if (method == null) {
            return;
        }
        int arguments = row.group(2).isEmpty() ? 0 : row.group(2).split(", ").length;
        CHECK.same(row.group(1) + ": arguments", arguments, method.getParameterCount());
        List<String> due = new ArrayList<>();
        for (Class<?> thrown : method.getExceptionTypes()) {
            due.add(thrown.getSimpleName());
        }
        List<String> found = new ArrayList<>();
        Matcher exception = EXCEPTION.matcher(row.group(4));
        while (exception.find()) {
            found.add(exception.group());
        }
        CHECK.same(row.group(1) + ": exceptions", found.toString(), due.toString());
    }
}
