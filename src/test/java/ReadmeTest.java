import java.io.IOException;
import java.lang.reflect.InvocationTargetException;
import java.lang.reflect.Method;
import java.lang.reflect.Modifier;
import java.nio.file.Files;
import java.nio.file.Path;
import java.util.List;
import java.util.Map;
import java.util.TreeMap;
import java.util.regex.Matcher;
import java.util.regex.Pattern;

/** What README.md tells of the class is so. It is run from the checkout's root, as .ci/run does. */
public final class ReadmeTest {
    private static final Pattern CALL =
        Pattern.compile("well\\.(\\w+)\\((.*)\\); +// (?:throws (\\w+)|(-?\\d+)): .+");
    private static final Pattern NAME = Pattern.compile("`(\\w+)`");

    private ReadmeTest() {
    }

    public static void main(String[] args) throws IOException {
        List<String> lines = Files.readAllLines(Path.of("README.md"));
        Map<String, Method> face = face();
        exampleAnswersWhatItSays(lines, face);
        tableNamesEachCallOnce(lines, face);
        Check.finish();
    }

    private static Map<String, Method> face() {
        Map<String, Method> face = new TreeMap<>();
        for (Method method : Bytewell.class.getDeclaredMethods()) {
            if (Modifier.isPublic(method.getModifiers())) {
                face.put(method.getName(), method);
            }
        }
        return face;
    }

    private static void exampleAnswersWhatItSays(List<String> lines, Map<String, Method> face) {
        Bytewell well = new Bytewell();
        int calls = 0;
        for (String line : lines) {
            if (line.startsWith("well.")) {
                calls++;
                Matcher call = CALL.matcher(line);
                Check.due("is this a call with its answer: " + line, call.matches(), true);
                if (call.matches()) {
                    String want = call.group(3) == null ? call.group(4) : "throws." + call.group(3);
                    Check.due(line, answer(well, face.get(call.group(1)), call.group(2)), want);
                }
            }
        }
        Check.due("is there an example", calls > 0, true);
    }

    private static String answer(Bytewell well, Method method, String told) {
        String[] numbers = told.split(", ");
        Object[] arguments = new Object[numbers.length];
        for (int i = 0; i < numbers.length; i++) {
            arguments[i] = Integer.valueOf(numbers[i]);
        }
        try {
            return String.valueOf(method.invoke(well, arguments));
        } catch (InvocationTargetException thrown) {
            return "throws." + thrown.getCause().getClass().getSimpleName();
        } catch (IllegalAccessException never) {
            throw new AssertionError(never);
        }
    }

    private static void tableNamesEachCallOnce(List<String> lines, Map<String, Method> face) {
        Map<String, Integer> named = new TreeMap<>();
        for (String line : lines) {
            if (line.startsWith("|")) {
                Matcher name = NAME.matcher(line);
                while (name.find()) {
                    named.merge(name.group(1), 1, Integer::sum);
                }
            }
        }
        Check.due("the calls that the table names", named.keySet(), face.keySet());
        for (Map.Entry<String, Integer> each : named.entrySet()) {
            Check.due("how often the table names " + each.getKey(), each.getValue(), 1);
        }
    }
}
