import java.io.IOException;
import java.lang.reflect.InvocationTargetException;
import java.lang.reflect.Method;
import java.lang.reflect.Modifier;
import java.nio.file.Files;
import java.nio.file.Path;
import java.util.ArrayList;
import java.util.Arrays;
import java.util.HashMap;
import java.util.List;
import java.util.Map;
import java.util.Set;
import java.util.TreeSet;
import java.util.regex.Matcher;
import java.util.regex.Pattern;

/** Makes the calls that README.md shows, as they stand there, and looks at what its tables say. */
public final class ReadmeTest {
    private static final Pattern MAKING = Pattern.compile("MarchMetres (\\w+) = new MarchMetres\\(\\);");
    private static final Pattern CALL = Pattern.compile("(\\w+)\\.(\\w+)\\(([^()]*)\\);\\s+// (-?\\w+)(:.*)?");

    private static final Map<String, MarchMetres> OBJECTS = new HashMap<>();
    private static final Map<String, Integer> CALLS_MADE = new HashMap<>();
    private static final Set<String> METHODS_SHOWN = new TreeSet<>();
    private static final Set<String> ANSWERS_SHOWN = new TreeSet<>();

    private ReadmeTest() {
    }

    // ---- the examples

    private static void examplesAnswerAsTheySay(List<String> readme) throws ReflectiveOperationException {
        boolean isExample = false;
        for (String line : readme) {
            if (line.startsWith("```")) {
                isExample = line.equals("```java");
            } else if (isExample && !line.isBlank()) {
                follow(line);
            }
        }
    }

    private static void follow(String line) throws ReflectiveOperationException {
        Matcher making = MAKING.matcher(line);
        Matcher call = CALL.matcher(line);
        if (making.matches()) {
            OBJECTS.put(making.group(1), new MarchMetres());
            CALLS_MADE.put(making.group(1), 0);
        } else if (call.matches() && OBJECTS.containsKey(call.group(1))) {
            Checks.due(line, answerOf(call.group(1), call.group(2), call.group(3)), numberOf(call.group(4)));
            METHODS_SHOWN.add(call.group(2));
            ANSWERS_SHOWN.add(call.group(4));
        } else {
            Checks.due("an example that can be followed: " + line, 0, 1);
        }
    }

    private static long answerOf(String object, String name, String arguments) throws ReflectiveOperationException {
        String[] words = arguments.isBlank() ? new String[0] : arguments.split(", ");
        CALLS_MADE.merge(object, 1, Integer::sum);
        for (Method method : MarchMetres.class.getMethods()) {
            Class<?>[] types = method.getParameterTypes();
            if (method.getName().equals(name) && types.length == words.length) {
                return called(method, OBJECTS.get(object), valuesOf(words, types));
            }
        }
        throw new NoSuchMethodException(name);
    }

    private static long called(Method method, MarchMetres object, Object[] values) throws ReflectiveOperationException {
        try {
            return (int) method.invoke(object, values);
        } catch (InvocationTargetException thrown) {
            throw new IllegalStateException(method.getName(), thrown.getCause());
        }
    }

    private static Object[] valuesOf(String[] words, Class<?>[] types) throws ReflectiveOperationException {
        Object[] values = new Object[words.length];
        for (int i = 0; i < words.length; i++) {
            if (types[i] == boolean.class) {
                values[i] = truthOf(words[i]);
            } else if (types[i] == long.class) {
                values[i] = numberOf(words[i]);
            } else {
                values[i] = Math.toIntExact(numberOf(words[i]));
            }
        }
        return values;
    }

    private static boolean truthOf(String word) {
        if (!word.equals("true") && !word.equals("false")) {
            throw new IllegalArgumentException(word);
        }
        return word.equals("true");
    }

    /** A number as Java writes it, or a constant of the class with or without the class ahead of it. */
    private static long numberOf(String word) throws ReflectiveOperationException {
        if (word.matches("(MarchMetres\\.)?[A-Z_]+")) {
            return MarchMetres.class.getField(word.replace("MarchMetres.", "")).getInt(null);
        }
        return Long.decode(word.replaceFirst("L$", ""));
    }

    private static void everythingIsShown() {
        Set<String> methods = new TreeSet<>();
        for (Method method : MarchMetres.class.getDeclaredMethods()) {
            if (Modifier.isPublic(method.getModifiers())) {
                methods.add(method.getName());
            }
        }
        Checks.same("the methods that README.md shows", METHODS_SHOWN.toString(), methods.toString());
        for (String answer : new String[] {"NO_SUCH", "BAD_VALUE", "BAD_TEXT", "NOT_POSSIBLE", "NONE"}) {
            Checks.due("an example that answers " + answer, ANSWERS_SHOWN.contains(answer) ? 1 : 0, 1);
        }
        for (String object : CALLS_MADE.keySet()) {
            Checks.due("at most 512 calls of " + object, CALLS_MADE.get(object) <= 512 ? 1 : 0, 1);
        }
    }

    // ---- the tables

    /** The rows of the table whose first head is this one, without the heads. */
    private static List<String[]> tableOf(List<String> readme, String firstHead) {
        List<String[]> rows = new ArrayList<>();
        boolean isInside = false;
        for (String line : readme) {
            String[] cells = line.startsWith("|") ? line.substring(1).trim().split("\\s*\\|\\s*") : new String[] {""};
            String first = cells[0].trim().replace("`", "");
            if (first.equals(firstHead)) {
                isInside = true;
            } else if (!line.startsWith("|")) {
                isInside = false;
            } else if (isInside && !first.startsWith("--")) {
                cells[0] = first;
                rows.add(cells);
            }
        }
        return rows;
    }

    private static void charactersAreSo(List<String[]> rows) {
        Checks.due("rows of the characters", rows.size(), 5);
        for (String[] row : rows) {
            Checks.due("the code of " + row[0], Long.decode(row[1].replace("`", "")), row[0].charAt(0));
            Matcher beats = Pattern.compile("a foot of (\\d) beats").matcher(row[2]);
            if (beats.matches()) {
                MarchMetres x = Checks.withSong(row[0]);
                Checks.due("the beats of " + row[0], x.foot(0, 0, 0), Integer.parseInt(beats.group(1)));
            }
        }
        Checks.due("a foot, a mark, a line, a foot", Checks.withSong("u'/u").count(8), 1);
    }

    private static void settingsAreSo(List<String[]> rows) throws ReflectiveOperationException {
        Checks.due("rows of the settings", rows.size(), 6);
        for (int setting = 0; setting < rows.size(); setting++) {
            String[] row = rows.get(setting);
            int least = Integer.parseInt(row[1].split(" to ")[0]);
            int most = Integer.parseInt(row[1].split(" to ")[1]);
            MarchMetres x = new MarchMetres();
            Checks.due("the number of " + row[0], numberOf(row[0]), setting);
            Checks.due("the first " + row[0], x.count(setting), Integer.parseInt(row[2]));
            Checks.due("too little " + row[0], x.set(setting, least - 1), Checks.BAD_VALUE);
            Checks.due("too much " + row[0], x.set(setting, most + 1), Checks.BAD_VALUE);
            Checks.due("the least " + row[0], x.set(setting, least), Integer.parseInt(row[2]));
            Checks.due("the most " + row[0], x.set(setting, most), least);
        }
    }

    private static void constantsAreSo(List<String[]> rows) throws ReflectiveOperationException {
        Checks.due("rows of the errors and NONE", rows.size(), 6);
        for (String[] row : rows) {
            Checks.due(row[0], numberOf(row[0]), Integer.parseInt(row[1]));
        }
    }

    // ---- what it tells of the tests

    private static void eachTestIsNamed(List<String> readme) {
        String text = String.join("\n", readme);
        Checks.due("how the tests are run", text.contains("\n    .ci/run\n") ? 1 : 0, 1);
        String[] files = Path.of("src/test/java").toFile().list();
        for (String file : files == null ? new String[0] : files) {
            if (file.endsWith("Test.java")) {
                String name = file.replace(".java", "");
                Checks.due(name + " is named", text.contains("`" + name + "`") ? 1 : 0, 1);
            }
        }
    }

    public static void main(String[] args) throws IOException, ReflectiveOperationException {
        List<String> readme = Arrays.asList(Files.readString(Path.of("README.md")).split("\n"));
        examplesAnswerAsTheySay(readme);
        everythingIsShown();
        charactersAreSo(tableOf(readme, "character"));
        settingsAreSo(tableOf(readme, "setting"));
        constantsAreSo(tableOf(readme, "constant"));
        eachTestIsNamed(readme);
        Checks.end("ReadmeTest");
    }
}
