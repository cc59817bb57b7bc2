import java.io.IOException;
import java.lang.reflect.InvocationTargetException;
import java.lang.reflect.Method;
import java.nio.file.Files;
import java.nio.file.Path;
import java.util.HashMap;
import java.util.HashSet;
import java.util.Map;
import java.util.Set;
import java.util.regex.Matcher;
import java.util.regex.Pattern;

/** README.md tells how the class is used: its examples, one run, answer what stands behind them. */
public final class ReadmeTest {
    private static final Path README = Path.of("README.md");
    private static final Pattern EXAMPLES = Pattern.compile("(?s)```java\n(.*?)```");
    private static final Pattern CALL = Pattern.compile("(?:int (\\w+) = )?nursery\\.(\\w+)\\((.*)\\); +// (-?\\d+)\\b.*");
    private static final String MADE = "SmallRooms nursery = new SmallRooms();";

    private final Due due = new Due("readme");
    private final SmallRooms nursery = new SmallRooms();
    private final Map<String, Integer> names = new HashMap<>();
    private final Set<String> called = new HashSet<>();

    public static void main(String[] args) throws IOException {
        String text = Files.readString(README);
        ReadmeTest test = new ReadmeTest();
        Matcher examples = EXAMPLES.matcher(text);
        while (examples.find()) {
            examples.group(1).lines().filter(line -> !line.equals(MADE)).forEach(test::answers);
        }
        for (String told : new String[] {"room", "moves", "text", "look", "shifts", "admit", "bill", "undo"}) {
            test.due.is("has an example of " + told, 1, test.called.contains(told) ? 1 : 0);
        }
        test.due.is("tells how the tests are run", 1, text.contains("`.ci/run`") ? 1 : 0);
        test.everyTestIsNamed(text);
        test.due.end();
    }

    private void answers(String line) {
        Matcher call = CALL.matcher(line);
        if (!call.matches()) {
            due.is("can be read: " + line, 1, 0);
            return;
        }
        int got = ask(call.group(2), call.group(3).isEmpty() ? new String[0] : call.group(3).split(", "));
        due.is(line, Integer.parseInt(call.group(4)), got);
        called.add(call.group(2));
        if (call.group(1) != null) {
            names.put(call.group(1), got);
        }
    }

    private int ask(String name, String[] told) {
        for (Method method : SmallRooms.class.getMethods()) {
            if (method.getName().equals(name) && method.getParameterCount() == told.length) {
                Object[] values = new Object[told.length];
                for (int i = 0; i < told.length; i++) {
                    values[i] = value(told[i]);
                }
                try {
                    return (int) method.invoke(nursery, values);
                } catch (IllegalAccessException | InvocationTargetException e) {
                    throw new IllegalStateException(name, e);
                }
            }
        }
        throw new IllegalStateException("no call " + name);
    }

    private Object value(String told) {
        if (told.equals("true") || told.equals("false")) {
            return told.equals("true");
        }
        return names.containsKey(told) ? names.get(told) : Integer.valueOf(told);
    }

    private void everyTestIsNamed(String text) throws IOException {
        try (var files = Files.list(Path.of("src/test/java"))) {
            files.map(file -> file.getFileName().toString()).filter(name -> name.endsWith("Test.java"))
                .forEach(name -> due.is("names " + name, 1, text.contains("`" + name.replace(".java", "") + "`") ? 1 : 0));
        }
    }
}
