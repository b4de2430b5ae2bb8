import java.io.File;
import java.io.IOException;
import java.lang.reflect.Method;
import java.lang.reflect.Modifier;
import java.nio.file.Files;
import java.nio.file.Path;
import java.util.Arrays;
import java.util.regex.Matcher;
import java.util.regex.Pattern;

/** README.md is true: what stands behind a call is its answer, every call and every test is named. */
public final class ReadmeTest {
    private static final Pattern CALL = Pattern.compile("(?m)^(x\\.(\\w+)|tell)\\((.*)\\); +// (-?\\d+):");

    private final Due due = new Due("ReadmeTest");

    private static Object argument(Class<?> type, String word) {
        if (type == boolean.class) {
            return Boolean.valueOf(word);
        }
        return type == long.class ? (Object) Long.decode(word) : Integer.decode(word);
    }

    private static long answer(RowsColumns x, String call, String[] words) throws ReflectiveOperationException {
        for (Method m : RowsColumns.class.getDeclaredMethods()) {
            Class<?>[] types = m.getParameterTypes();
            if (Modifier.isPublic(m.getModifiers()) && m.getName().equals(call) && types.length == words.length) {
                Object[] arguments = new Object[words.length];
                for (int i = 0; i < words.length; i++) {
                    arguments[i] = argument(types[i], words[i]);
                }
                return ((Number) m.invoke(x, arguments)).longValue();
            }
        }
        throw new IllegalStateException("there is no such call: " + call);
    }

    /** All examples are one run of calls, on one object. */
    private void examples(String page) throws ReflectiveOperationException {
        RowsColumns x = new RowsColumns();
        Matcher calls = CALL.matcher(page);
        int many = 0;
        while (calls.find()) {
            String told = calls.group(3);
            String[] words = told.isEmpty() ? new String[0] : told.split(", ");
            long got = calls.group(2) == null
                ? Due.tell(x, told.substring(told.indexOf('"') + 1, told.lastIndexOf('"')))
                : answer(x, calls.group(2), words);
            due.is(calls.group(), got, Long.parseLong(calls.group(4)));
            many++;
        }
        long lines = page.lines().filter(line -> line.matches("(x\\.|tell\\().*")).count();
        due.is("examples with an answer", many, lines);
    }

    private void named(String page, String name) {
        due.is("whether it names " + name, page.contains("`" + name + "`") ? 1 : 0, 1);
    }

    private void names(String page) {
        for (Method m : RowsColumns.class.getDeclaredMethods()) {
            if (Modifier.isPublic(m.getModifiers())) {
                named(page, m.getName());
            }
        }
        File[] tests = new File("src/test/java").listFiles((folder, name) -> name.endsWith("Test.java"));
        due.is("whether there are tests", tests == null ? 0 : 1, 1);
        Arrays.stream(tests).map(File::getName).map(name -> name.replace(".java", ""))
            .filter(name -> !name.equals("TextTest")).forEach(name -> named(page, name));
        named(page, "src/test/java/TextTest.java");
    }

    public static void main(String[] args) throws IOException, ReflectiveOperationException {
        ReadmeTest test = new ReadmeTest();
        String page = Files.readString(Path.of("README.md"));
        test.examples(page);
        test.names(page);
        test.due.close();
    }
}
