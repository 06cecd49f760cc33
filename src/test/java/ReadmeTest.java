import java.io.IOException;
import java.lang.reflect.InvocationTargetException;
import java.lang.reflect.Method;
import java.nio.file.Files;
import java.nio.file.Path;
import java.util.HashMap;
import java.util.List;
import java.util.Map;
import java.util.TreeMap;
import java.util.TreeSet;
import java.util.regex.Matcher;
import java.util.regex.Pattern;

/** README.md tells the face as it is, and each line of its example answers what stands behind it. */
public final class ReadmeTest {
    private static final Pattern ROW = Pattern.compile("\\| `(\\w+)\\((.*?)\\)` \\|.*\\| ([\\w, ]+) \\|");
    private static final Pattern LINE = Pattern.compile("(?:int (\\w+) = )?world\\.(\\w+)\\((.*)\\); +// (.*)");
    private static final Pattern ANSWER = Pattern.compile("(?:throws (\\w+)|\"(.*)\"|([-\\w]+)).*");

    public static void main(String[] args) throws IOException, ReflectiveOperationException {
        List<String> lines = Files.readAllLines(Path.of("README.md"));
        testTables(lines);
        testExample(lines);
        testWhatIsTold(String.join(" ", lines));
        Check.close("ReadmeTest");
    }

    private static void testTables(List<String> lines) {
        Map<String, String> told = new TreeMap<>();
        for (String line : lines) {
            Matcher row = ROW.matcher(line);
            if (row.matches()) {
                int many = row.group(2).isEmpty() ? 0 : row.group(2).split(", ").length;
                String before = told.put(row.group(1) + " of " + many, row.group(3));
                Check.due(row.group(1) + " is told before", before == null, true);
            }
        }
        Check.due("the tables", told, face());
    }

    private static Map<String, String> face() {
        Map<String, String> face = new TreeMap<>();
        for (Method method : publicMethods().values()) {
            StringBuilder names = new StringBuilder();
            for (Class<?> exception : method.getExceptionTypes()) {
                String name = exception.getSimpleName();
                names.append(names.length() == 0 ? "" : ", ");
                names.append(name.startsWith("Index") ? "index" : name.startsWith("IllegalA") ? "argument" : "state");
            }
            String thrown = names.length() == 0 ? "nothing" : names.toString();
            face.put(method.getName() + " of " + method.getParameterCount(), thrown);
        }
        return face;
    }

    private static Map<String, Method> publicMethods() {
        Map<String, Method> methods = new TreeMap<>();
        for (Method method : Twocoin.class.getDeclaredMethods()) {
            if (java.lang.reflect.Modifier.isPublic(method.getModifiers())) {
                methods.put(method.getName(), method);
            }
        }
        return methods;
    }

    private static void testExample(List<String> lines) throws ReflectiveOperationException {
        Twocoin world = new Twocoin();
        Map<String, Integer> numbers = new HashMap<>();
        Map<String, Method> methods = publicMethods();
        TreeSet<String> thrown = new TreeSet<>();
        for (String line : lines) {
            if (line.contains("world.")) {
                Matcher call = LINE.matcher(line);
                Check.due("a call with its answer: " + line, call.matches(), true);
                Matcher told = ANSWER.matcher(call.group(4));
                Check.due("an answer: " + line, told.matches(), true);
                Object got = answer(world, methods.get(call.group(2)), call.group(3), numbers);
                Check.due(line, String.valueOf(got), answerIn(told));
                if (call.group(1) != null) {
                    numbers.put(call.group(1), (Integer) got);
                }
                if (told.group(1) != null) {
                    thrown.add(told.group(1));
                }
            }
        }
        Check.due("each exception is shown", thrown.size(), 3);
        Check.due("what is made is shown", numbers.size(), 5);
    }

    private static String answerIn(Matcher told) {
        for (int group = 1; group < 3; group++) {
            if (told.group(group) != null) {
                return told.group(group);
            }
        }
        return told.group(3);
    }

    private static Object answer(Twocoin world, Method method, String arguments, Map<String, Integer> numbers)
            throws ReflectiveOperationException {
        String[] words = arguments.isEmpty() ? new String[0] : arguments.split(", ");
        Object[] values = new Object[words.length];
        for (int i = 0; i < words.length; i++) {
            values[i] = numbers.containsKey(words[i]) ? numbers.get(words[i]) : Integer.valueOf(words[i]);
        }
        try {
            return method.invoke(world, values);
        } catch (InvocationTargetException e) {
            return e.getCause().getClass().getSimpleName();
        }
    }

    private static void testWhatIsTold(String readme) {
        String[] told = {
            "new Twocoin()", "512 calls", "0 GOLD, 1 SILVER", "20, 10, 5, 2 and 1 pound", "NONE | -1",
            "A call that throws changes nothing", "IndexOutOfBoundsException", "IllegalArgumentException",
            "IllegalStateException", ".ci/run", "../shared/tests",
        };
        for (String words : told) {
            Check.due("README.md tells: " + words, readme.contains(words), true);
        }
    }
}
