import java.io.IOException;
import java.lang.reflect.InvocationTargetException;
import java.lang.reflect.Method;
import java.nio.file.Files;
import java.nio.file.Path;
import java.util.ArrayList;
import java.util.List;
import java.util.Set;
import java.util.TreeSet;
import java.util.regex.Matcher;
import java.util.regex.Pattern;

/** The example of README.md answers what it says, and the table names each call; run where README.md lies. */
public final class ReadmeTest {
    private static final String MADE = "DatamarketDesk desk = new DatamarketDesk();";
    private static final Pattern CALL = Pattern.compile("desk\\.(\\w+)\\(([-0-9, ]*)\\);\\s*// ([^:]+): .+");
    private static final Pattern ROW = Pattern.compile("\\| `(\\w+)\\(([a-z, ]*)\\)` \\| .+ \\|");

    private static int wrong = 0;

    public static void main(String[] args) throws IOException {
        List<String> lines = Files.readAllLines(Path.of("README.md"));
        theExample(lines);
        theTable(lines);
        if (wrong != 0) {
            System.exit(1);
        }
        System.out.println("README.md says what is so");
    }

    private static void theExample(List<String> lines) {
        int start = lines.indexOf("```java");
        if (start < 0 || !lines.get(start + 1).equals(MADE)) {
            isWrong("no example that begins with: " + MADE);
            return;
        }
        DatamarketDesk desk = new DatamarketDesk();
        int calls = 0;
        for (String line : lines.subList(start + 2, lines.size())) {
            if (line.equals("```")) {
                break;
            }
            calls++;
            Matcher call = CALL.matcher(line);
            if (!call.matches()) {
                isWrong("no call with its answer: " + line);
                continue;
            }
            String got = outcome(desk, call.group(1), numbersOf(call.group(2)));
            if (!got.equals(call.group(3))) {
                isWrong(line + " - the answer is " + got);
            }
        }
        if (calls == 0) {
            isWrong("the example has no calls");
        }
    }

    private static Object[] numbersOf(String list) {
        List<Object> numbers = new ArrayList<>();
        for (String one : list.split(",")) {
            if (!one.isBlank()) {
                numbers.add(Integer.valueOf(one.trim()));
            }
        }
        return numbers.toArray();
    }

    private static String outcome(DatamarketDesk desk, String name, Object[] numbers) {
        for (Method method : DatamarketDesk.class.getDeclaredMethods()) {
            if (method.getName().equals(name) && method.getParameterCount() == numbers.length) {
                try {
                    return String.valueOf(method.invoke(desk, numbers));
                } catch (InvocationTargetException thrown) {
                    return "throws " + thrown.getCause().getClass().getSimpleName();
                } catch (IllegalAccessException thrown) {
                    return "not public";
                }
            }
        }
        return "no such call";
    }

    private static void theTable(List<String> lines) {
        Set<String> told = new TreeSet<>();
        for (String line : lines) {
            Matcher row = ROW.matcher(line);
            if (row.matches()) {
                told.add(row.group(1) + "/" + (row.group(2).isEmpty() ? 0 : row.group(2).split(",").length));
            }
        }
        Set<String> calls = new TreeSet<>();
        for (Method method : DatamarketDesk.class.getMethods()) {
            if (method.getDeclaringClass() == DatamarketDesk.class) {
                calls.add(method.getName() + "/" + method.getParameterCount());
            }
        }
        if (!told.equals(calls)) {
            isWrong("the table names " + told + ", the calls are " + calls);
        }
    }

    private static void isWrong(String what) {
        wrong++;
        System.out.println(what);
    }
}
