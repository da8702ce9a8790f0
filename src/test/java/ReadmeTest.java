import java.io.File;
import java.lang.reflect.InvocationTargetException;
import java.lang.reflect.Method;
import java.lang.reflect.Modifier;
import java.nio.file.Files;
import java.nio.file.Path;
import java.util.ArrayList;
import java.util.List;
import java.util.TreeSet;
import java.util.regex.Matcher;
import java.util.regex.Pattern;

/** What README.md says: its examples answer so, its table has every call, its constants and tests are there. */
public final class ReadmeTest {
    private static final Due due = new Due("readme");
    private static final Pattern EXAMPLES = Pattern.compile("(?s)```java\n(.*?)```");
    private static final Pattern NEW = Pattern.compile("BitStreams x = new BitStreams\\(\\);");
    private static final Pattern CALL = Pattern.compile("x\\.(\\w+)\\(([^)]*)\\); +// (-?\\d+)(:.*)?");
    private static final Pattern ROW_OF_CALL = Pattern.compile("(?m)^\\| `((?:int|long) \\w+\\([^)]*\\))` \\|");
    private static final Pattern ROW_OF_CONSTANT = Pattern.compile("(?m)^\\| `([A-Z]+)` \\| (-\\d+) \\|");

    public static void main(String[] args) throws Exception {
        String text = Files.readString(Path.of("README.md"));
        examples(text);
        calls(text);
        constants(text);
        tests(text);
        due.end();
    }

    private static void examples(String text) throws Exception {
        int found = 0;
        Matcher example = EXAMPLES.matcher(text);
        while (example.find()) {
            found++;
            run(example.group(1).split("\n"));
        }
        due.is("examples", found, 2);
    }

    private static void run(String[] lines) throws Exception {
        due.holds("that an example begins with a new object", NEW.matcher(lines[0]).matches());
        BitStreams x = new BitStreams();
        for (int i = 1; i < lines.length; i++) {
            Matcher call = CALL.matcher(lines[i]);
            boolean isCall = call.matches();
            due.holds("that this is a call with its answer: " + lines[i], isCall);
            if (isCall) {
                due.is(lines[i], answer(x, call.group(1), call.group(2)), Long.parseLong(call.group(3)));
            }
        }
    }

    private static long answer(BitStreams x, String name, String text)
            throws IllegalAccessException, InvocationTargetException {
        for (Method method : BitStreams.class.getMethods()) {
            if (method.getName().equals(name)) {
                return ((Number) method.invoke(x, numbers(text))).longValue();
            }
        }
        throw new IllegalStateException("no call " + name);
    }

    private static Object[] numbers(String text) {
        List<Object> numbers = new ArrayList<>();
        for (String number : text.split(", ")) {
            if (!number.isEmpty()) {
                numbers.add(Integer.valueOf(number));
            }
        }
        return numbers.toArray();
    }

    private static void calls(String text) {
        TreeSet<String> told = new TreeSet<>();
        Matcher row = ROW_OF_CALL.matcher(text);
        while (row.find()) {
            told.add(row.group(1).replaceAll("(int|long|boolean) \\w+(?=[,)])", "$1"));
        }
        TreeSet<String> there = new TreeSet<>();
        for (Method method : BitStreams.class.getDeclaredMethods()) {
            if (Modifier.isPublic(method.getModifiers())) {
                there.add(LanguageTest.asWritten(method));
            }
        }
        due.holds("that the table's calls " + told + " are the class's " + there, told.equals(there));
    }

    private static void constants(String text) throws Exception {
        int found = 0;
        Matcher row = ROW_OF_CONSTANT.matcher(text);
        while (row.find()) {
            found++;
            due.is(row.group(1), BitStreams.class.getField(row.group(1)).getInt(null), Long.parseLong(row.group(2)));
        }
        due.is("refusals told", found, 3);
    }

    private static void tests(String text) {
        String[] files = new File("src/test/java").list((folder, name) -> name.endsWith("Test.java"));
        due.holds("that there are tests", files != null && files.length > 0);
        for (String file : files == null ? new String[0] : files) {
            String name = file.replace(".java", "");
            due.holds("that README.md names " + name, text.contains("`" + name + "`"));
        }
    }
}
