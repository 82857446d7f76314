import java.io.File;
import java.io.IOException;
import java.lang.reflect.InvocationTargetException;
import java.lang.reflect.Method;
import java.lang.reflect.Modifier;
import java.nio.file.Files;
import java.nio.file.Path;
import java.util.HashMap;
import java.util.Map;
import java.util.regex.Matcher;
import java.util.regex.Pattern;

/** README.md against the class: each row of its examples answers as the page says, and no call and no test is left out. */
public final class ReadmeTest {
    private static final Pattern EXAMPLE = Pattern.compile("(?:int (\\w+) = )?x\\.(\\w+)\\((.*)\\); +// (true|-?\\d+): .*");
    private static final Pattern ROW = Pattern.compile("\\| `(\\w+)\\((.*)\\)` \\| .+ \\| (-1|-2|false|) ?\\|");
    private static final int EXAMPLES = 18;

    private final Check check = new Check();
    private final CandleEnds x = new CandleEnds();
    private final Map<String, Long> numbers = new HashMap<>();

    public static void main(String[] args) throws IOException, ReflectiveOperationException {
        ReadmeTest t = new ReadmeTest();
        String page = Files.readString(Path.of("README.md"));
        t.examples(page);
        t.calls(page);
        t.tests(page);
        t.check.close("ReadmeTest");
    }

    private void examples(String page) throws ReflectiveOperationException {
        int found = 0;
        for (String line : page.split("\n")) {
            Matcher m = EXAMPLE.matcher(line);
            if (m.matches()) {
                found++;
                long got = answer(m.group(2), m.group(3));
                check.due(line, got, m.group(4).equals("true") ? 1 : Long.parseLong(m.group(4)));
                if (m.group(1) != null) {
                    numbers.put(m.group(1), got);
                }
            }
        }
        check.due("examples of README.md", found, EXAMPLES);
    }

    private long answer(String name, String told) throws ReflectiveOperationException {
        String[] words = told.isEmpty() ? new String[0] : told.split(", ");
        Object[] arguments = new Object[words.length];
        for (int i = 0; i < words.length; i++) {
            arguments[i] = numbers.containsKey(words[i]) ? numbers.get(words[i]).intValue() : Integer.decode(words[i]);
        }
        Object got = method(name).invoke(x, arguments);
        return got instanceof Boolean ? (Boolean) got ? 1 : 0 : ((Number) got).longValue();
    }

    private static Method method(String name) throws NoSuchMethodException {
        for (Method m : CandleEnds.class.getMethods()) {
            if (m.getName().equals(name)) {
                return m;
            }
        }
        throw new NoSuchMethodException(name);
    }

    /** A row for each call, whose last column is what a call without sense answers. */
    private void calls(String page) throws ReflectiveOperationException {
        Map<String, String> rows = new HashMap<>();
        for (String line : page.split("\n")) {
            Matcher m = ROW.matcher(line);
            if (m.matches()) {
                rows.put(m.group(1), m.group(3));
                int parameters = m.group(2).isEmpty() ? 0 : m.group(2).split(", ").length;
                check.due(line + ": parameters", parameters, method(m.group(1)).getParameterCount());
            }
        }
        int told = 0;
        for (Method m : CandleEnds.class.getDeclaredMethods()) {
            if (Modifier.isPublic(m.getModifiers())) {
                told++;
                check.due("README.md has a row of " + m.getName(), rows.containsKey(m.getName()), true);
                refused(m, rows.getOrDefault(m.getName(), ""));
            }
        }
        check.due("rows of calls", rows.size(), told);
    }

    private void refused(Method m, String told) throws IllegalAccessException, InvocationTargetException {
        // A full tape and no room for one more text are the edges of feed and text, which take no senseless argument.
        boolean isEdge = m.getName().equals("feed") || m.getName().equals("text");
        if (told.isEmpty() || isEdge) {
            return;
        }
        Object[] senseless = new Object[m.getParameterCount()];
        for (int i = 0; i < senseless.length; i++) {
            boolean isFlag = m.getParameterTypes()[i] == boolean.class;
            senseless[i] = isFlag ? (Object) Boolean.TRUE : (Object) Integer.MIN_VALUE;
        }
        String got = String.valueOf(m.invoke(new CandleEnds(), senseless));
        check.due(m.getName() + " of what can't be answered " + got + ", the page says " + told, got.equals(told), true);
    }

    private void tests(String page) {
        File[] files = new File("src/test/java").listFiles((dir, name) -> name.endsWith("Test.java"));
        for (File file : files == null ? new File[0] : files) {
            String name = file.getName().replace(".java", "");
            check.due("README.md has a row of " + name, page.contains("| `" + name + "` | "), true);
        }
    }
}
